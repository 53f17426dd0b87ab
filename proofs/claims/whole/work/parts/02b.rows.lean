section VI
variable {G : GG} {i : MM} {pc : Nat} {lv : List (Nat × Value)} {st : List Value} {h : HH} {c s : Nat} {Q Q' : Option Value → HH → Prop}
theorem V.iconst {n : Int} {v : Int32} (hd : decode (m_C i) pc = .ok (.iconst n, 1)) (hv : Int32.ofInt n = v) (kk : V G i (pc + 1) lv (.int v :: st) h c s Q) : V G i pc lv (st) h c s Q :=
  fun X C E H locs cells slots ls hR hL hl h1 h2 => lv_iconst C.1 C.2.1 hd hv (kk X C E H locs cells slots ls hR hL hl h1 h2)
theorem V.bipush {n : Int} {v : Int32} (hd : decode (m_C i) pc = .ok (.bipush n, 2)) (hv : (Int8.ofInt n).toInt32 = v) (kk : V G i (pc + 2) lv (.int v :: st) h c s Q) : V G i pc lv (st) h c s Q :=
  fun X C E H locs cells slots ls hR hL hl h1 h2 => lv_bipush C.1 C.2.1 hd hv (kk X C E H locs cells slots ls hR hL hl h1 h2)
theorem V.sipush {n : Int} {v : Int32} (hd : decode (m_C i) pc = .ok (.sipush n, 3)) (hv : (Int16.ofInt n).toInt32 = v) (kk : V G i (pc + 3) lv (.int v :: st) h c s Q) : V G i pc lv (st) h c s Q :=
  fun X C E H locs cells slots ls hR hL hl h1 h2 => lv_sipush C.1 C.2.1 hd hv (kk X C E H locs cells slots ls hR hL hl h1 h2)
theorem V.lconst {n : Fin 2} {v : Int64} (hd : decode (m_C i) pc = .ok (.lconst n, 1)) (hv : Int64.ofNat (n : Nat) = v) (kk : V G i (pc + 1) lv (.long v :: st) h c s Q) : V G i pc lv (st) h c s Q :=
  fun X C E H locs cells slots ls hR hL hl h1 h2 => lv_lconst C.1 C.2.1 hd hv (kk X C E H locs cells slots ls hR hL hl h1 h2)
theorem V.null (hd : decode (m_C i) pc = .ok (.aconst_null, 1)) (kk : V G i (pc + 1) lv (.null :: st) h c s Q) : V G i pc lv (st) h c s Q :=
  fun X C E H locs cells slots ls hR hL hl h1 h2 => lv_null C.1 C.2.1 hd (kk X C E H locs cells slots ls hR hL hl h1 h2)
theorem V.iload_n {k : Fin 4} {x : Int32} (hd : decode (m_C i) pc = .ok (.iload_n k, 1)) (hv : l_at lv (k : Nat) = some (.int x)) (kk : V G i (pc + 1) lv (.int x :: st) h c s Q) : V G i pc lv (st) h c s Q :=
  fun X C E H locs cells slots ls hR hL hl h1 h2 => lv_iload_n C.1 C.2.1 hd rfl (l_get hl hv) (kk X C E H locs cells slots ls hR hL hl h1 h2)
theorem V.iload {n : Nat} {x : Int32} (hd : decode (m_C i) pc = .ok (.iload n, 2)) (hv : l_at lv n = some (.int x)) (kk : V G i (pc + 2) lv (.int x :: st) h c s Q) : V G i pc lv (st) h c s Q :=
  fun X C E H locs cells slots ls hR hL hl h1 h2 => lv_iload C.1 C.2.1 hd (l_get hl hv) (kk X C E H locs cells slots ls hR hL hl h1 h2)
theorem V.lload_n {k : Fin 4} {x : Int64} (hd : decode (m_C i) pc = .ok (.lload_n k, 1)) (hv : l_at lv (k : Nat) = some (.long x)) (kk : V G i (pc + 1) lv (.long x :: st) h c s Q) : V G i pc lv (st) h c s Q :=
  fun X C E H locs cells slots ls hR hL hl h1 h2 => lv_lload_n C.1 C.2.1 hd rfl (l_get hl hv) (kk X C E H locs cells slots ls hR hL hl h1 h2)
theorem V.lload {n : Nat} {x : Int64} (hd : decode (m_C i) pc = .ok (.lload n, 2)) (hv : l_at lv n = some (.long x)) (kk : V G i (pc + 2) lv (.long x :: st) h c s Q) : V G i pc lv (st) h c s Q :=
  fun X C E H locs cells slots ls hR hL hl h1 h2 => lv_lload C.1 C.2.1 hd (l_get hl hv) (kk X C E H locs cells slots ls hR hL hl h1 h2)
theorem V.aload_n {k : Fin 4} {x : Nat} (hd : decode (m_C i) pc = .ok (.aload_n k, 1)) (hv : l_at lv (k : Nat) = some (.ref x)) (kk : V G i (pc + 1) lv (.ref x :: st) h c s Q) : V G i pc lv (st) h c s Q :=
  fun X C E H locs cells slots ls hR hL hl h1 h2 => lv_aload_n C.1 C.2.1 hd rfl (l_get hl hv) (kk X C E H locs cells slots ls hR hL hl h1 h2)
theorem V.aload {n : Nat} {x : Nat} (hd : decode (m_C i) pc = .ok (.aload n, 2)) (hv : l_at lv n = some (.ref x)) (kk : V G i (pc + 2) lv (.ref x :: st) h c s Q) : V G i pc lv (st) h c s Q :=
  fun X C E H locs cells slots ls hR hL hl h1 h2 => lv_aload C.1 C.2.1 hd (l_get hl hv) (kk X C E H locs cells slots ls hR hL hl h1 h2)
theorem V.aload_nN {k : Fin 4} (hd : decode (m_C i) pc = .ok (.aload_n k, 1)) (hv : l_at lv (k : Nat) = some .null) (kk : V G i (pc + 1) lv (.null :: st) h c s Q) : V G i pc lv (st) h c s Q :=
  fun X C E H locs cells slots ls hR hL hl h1 h2 => lv_aload_nN C.1 C.2.1 hd rfl (l_get hl hv) (kk X C E H locs cells slots ls hR hL hl h1 h2)
theorem V.aloadN {n : Nat} (hd : decode (m_C i) pc = .ok (.aload n, 2)) (hv : l_at lv n = some .null) (kk : V G i (pc + 2) lv (.null :: st) h c s Q) : V G i pc lv (st) h c s Q :=
  fun X C E H locs cells slots ls hR hL hl h1 h2 => lv_aloadN C.1 C.2.1 hd (l_get hl hv) (kk X C E H locs cells slots ls hR hL hl h1 h2)
theorem V.istore_n {k : Fin 4} {x : Int32} (hd : decode (m_C i) pc = .ok (.istore_n k, 1)) (hn : (k : Nat) < m_L i) (kk : V G i (pc + 1) (l_set lv (k : Nat) (.int x)) st h c s Q) : V G i pc lv (.int x :: st) h c s Q :=
  fun X C E H locs cells slots ls hR hL hl h1 h2 => lv_istore_n C.1 C.2.1 hd rfl hl hn rfl (fun ls' hl' => kk X C E H locs cells slots ls' hR hL hl' h1 h2)
theorem V.istore {n : Nat} {x : Int32} (hd : decode (m_C i) pc = .ok (.istore n, 2)) (hn : n < m_L i) (kk : V G i (pc + 2) (l_set lv n (.int x)) st h c s Q) : V G i pc lv (.int x :: st) h c s Q :=
  fun X C E H locs cells slots ls hR hL hl h1 h2 => lv_istore C.1 C.2.1 hd hl hn rfl (fun ls' hl' => kk X C E H locs cells slots ls' hR hL hl' h1 h2)
theorem V.lstore_n {k : Fin 4} {x : Int64} (hd : decode (m_C i) pc = .ok (.lstore_n k, 1)) (hn : (k : Nat) + 1 < m_L i) (kk : V G i (pc + 1) (l_set2 lv (k : Nat) (.long x)) st h c s Q) : V G i pc lv (.long x :: st) h c s Q :=
  fun X C E H locs cells slots ls hR hL hl h1 h2 => lv_lstore_n C.1 C.2.1 hd rfl hl hn rfl (fun ls' hl' => kk X C E H locs cells slots ls' hR hL hl' h1 h2)
theorem V.lstore {n : Nat} {x : Int64} (hd : decode (m_C i) pc = .ok (.lstore n, 2)) (hn : n + 1 < m_L i) (kk : V G i (pc + 2) (l_set2 lv n (.long x)) st h c s Q) : V G i pc lv (.long x :: st) h c s Q :=
  fun X C E H locs cells slots ls hR hL hl h1 h2 => lv_lstore C.1 C.2.1 hd hl hn rfl (fun ls' hl' => kk X C E H locs cells slots ls' hR hL hl' h1 h2)
theorem V.astore_n {k : Fin 4} {x : Nat} (hd : decode (m_C i) pc = .ok (.astore_n k, 1)) (hn : (k : Nat) < m_L i) (kk : V G i (pc + 1) (l_set lv (k : Nat) (.ref x)) st h c s Q) : V G i pc lv (.ref x :: st) h c s Q :=
  fun X C E H locs cells slots ls hR hL hl h1 h2 => lv_astore_n C.1 C.2.1 hd rfl hl hn rfl (fun ls' hl' => kk X C E H locs cells slots ls' hR hL hl' h1 h2)
theorem V.astore {n : Nat} {x : Nat} (hd : decode (m_C i) pc = .ok (.astore n, 2)) (hn : n < m_L i) (kk : V G i (pc + 2) (l_set lv n (.ref x)) st h c s Q) : V G i pc lv (.ref x :: st) h c s Q :=
  fun X C E H locs cells slots ls hR hL hl h1 h2 => lv_astore C.1 C.2.1 hd hl hn rfl (fun ls' hl' => kk X C E H locs cells slots ls' hR hL hl' h1 h2)
theorem V.astore_nN {k : Fin 4} (hd : decode (m_C i) pc = .ok (.astore_n k, 1)) (hn : (k : Nat) < m_L i) (kk : V G i (pc + 1) (l_set lv (k : Nat) (.null)) st h c s Q) : V G i pc lv (.null :: st) h c s Q :=
  fun X C E H locs cells slots ls hR hL hl h1 h2 => lv_astore_nN C.1 C.2.1 hd rfl hl hn rfl (fun ls' hl' => kk X C E H locs cells slots ls' hR hL hl' h1 h2)
theorem V.astoreN {n : Nat} (hd : decode (m_C i) pc = .ok (.astore n, 2)) (hn : n < m_L i) (kk : V G i (pc + 2) (l_set lv n (.null)) st h c s Q) : V G i pc lv (.null :: st) h c s Q :=
  fun X C E H locs cells slots ls hR hL hl h1 h2 => lv_astoreN C.1 C.2.1 hd hl hn rfl (fun ls' hl' => kk X C E H locs cells slots ls' hR hL hl' h1 h2)
theorem V.iinc {n : Nat} {d : Int} {x v : Int32} (hd : decode (m_C i) pc = .ok (.iinc n d, 3)) (hv : l_at lv n = some (.int x)) (he : x + Int32.ofInt d = v) (hn : n < m_L i) (kk : V G i (pc + 3) (l_set lv n (.int v)) st h c s Q) : V G i pc lv st h c s Q := by
  intro X C E H locs cells slots ls hR hL hl h1 h2
  have hg : (n, Value.int x) ∈ lv := by
    unfold l_at at hv
    cases hf : lv.find? (fun q => q.1 == n) with
    | none => rw [hf] at hv; cases hv
    | some q =>
      rw [hf] at hv
      have e1 : q.1 = n := by simpa using List.find?_some hf
      have e2 : q.2 = .int x := by simpa using hv
      rw [← e1, ← e2]
      exact List.mem_of_find?_eq_some hf
  obtain ⟨k, hk⟩ := List.getElem?_of_mem hg
  exact lv_iinc C.1 C.2.1 hd hl hk he hn rfl (fun ls' hl' => kk X C E H locs cells slots ls' hR hL hl' h1 h2)
theorem V.iadd {x y : Int32} (hd : decode (m_C i) pc = .ok (.iadd, 1)) (kk : V G i (pc + 1) lv (.int (x + y) :: st) h c s Q) : V G i pc lv (.int y :: .int x :: st) h c s Q :=
  fun X C E H locs cells slots ls hR hL hl h1 h2 => lv_iadd C.1 C.2.1 hd (kk X C E H locs cells slots ls hR hL hl h1 h2)
theorem V.isub {x y : Int32} (hd : decode (m_C i) pc = .ok (.isub, 1)) (kk : V G i (pc + 1) lv (.int (x - y) :: st) h c s Q) : V G i pc lv (.int y :: .int x :: st) h c s Q :=
  fun X C E H locs cells slots ls hR hL hl h1 h2 => lv_isub C.1 C.2.1 hd (kk X C E H locs cells slots ls hR hL hl h1 h2)
theorem V.imul {x y : Int32} (hd : decode (m_C i) pc = .ok (.imul, 1)) (kk : V G i (pc + 1) lv (.int (x * y) :: st) h c s Q) : V G i pc lv (.int y :: .int x :: st) h c s Q :=
  fun X C E H locs cells slots ls hR hL hl h1 h2 => lv_imul C.1 C.2.1 hd (kk X C E H locs cells slots ls hR hL hl h1 h2)
theorem V.iand {x y : Int32} (hd : decode (m_C i) pc = .ok (.iand, 1)) (kk : V G i (pc + 1) lv (.int (x &&& y) :: st) h c s Q) : V G i pc lv (.int y :: .int x :: st) h c s Q :=
  fun X C E H locs cells slots ls hR hL hl h1 h2 => lv_iand C.1 C.2.1 hd (kk X C E H locs cells slots ls hR hL hl h1 h2)
theorem V.ior {x y : Int32} (hd : decode (m_C i) pc = .ok (.ior, 1)) (kk : V G i (pc + 1) lv (.int (x ||| y) :: st) h c s Q) : V G i pc lv (.int y :: .int x :: st) h c s Q :=
  fun X C E H locs cells slots ls hR hL hl h1 h2 => lv_ior C.1 C.2.1 hd (kk X C E H locs cells slots ls hR hL hl h1 h2)
theorem V.ixor {x y : Int32} (hd : decode (m_C i) pc = .ok (.ixor, 1)) (kk : V G i (pc + 1) lv (.int (x ^^^ y) :: st) h c s Q) : V G i pc lv (.int y :: .int x :: st) h c s Q :=
  fun X C E H locs cells slots ls hR hL hl h1 h2 => lv_ixor C.1 C.2.1 hd (kk X C E H locs cells slots ls hR hL hl h1 h2)
theorem V.ishl {x y : Int32} (hd : decode (m_C i) pc = .ok (.ishl, 1)) (kk : V G i (pc + 1) lv (.int (x <<< (y &&& 31)) :: st) h c s Q) : V G i pc lv (.int y :: .int x :: st) h c s Q :=
  fun X C E H locs cells slots ls hR hL hl h1 h2 => lv_ishl C.1 C.2.1 hd (kk X C E H locs cells slots ls hR hL hl h1 h2)
theorem V.ishr {x y : Int32} (hd : decode (m_C i) pc = .ok (.ishr, 1)) (kk : V G i (pc + 1) lv (.int (x >>> (y &&& 31)) :: st) h c s Q) : V G i pc lv (.int y :: .int x :: st) h c s Q :=
  fun X C E H locs cells slots ls hR hL hl h1 h2 => lv_ishr C.1 C.2.1 hd (kk X C E H locs cells slots ls hR hL hl h1 h2)
theorem V.idiv {x y : Int32} (hd : decode (m_C i) pc = .ok (.idiv, 1)) (hne : ¬ y = 0) (kk : V G i (pc + 1) lv (.int (x / y) :: st) h c s Q) : V G i pc lv (.int y :: .int x :: st) h c s Q :=
  fun X C E H locs cells slots ls hR hL hl h1 h2 => lv_idiv C.1 C.2.1 hd hne (kk X C E H locs cells slots ls hR hL hl h1 h2)
theorem V.irem {x y : Int32} (hd : decode (m_C i) pc = .ok (.irem, 1)) (hne : ¬ y = 0) (kk : V G i (pc + 1) lv (.int (x - x / y * y) :: st) h c s Q) : V G i pc lv (.int y :: .int x :: st) h c s Q :=
  fun X C E H locs cells slots ls hR hL hl h1 h2 => lv_irem C.1 C.2.1 hd hne (kk X C E H locs cells slots ls hR hL hl h1 h2)
theorem V.ineg {x : Int32} (hd : decode (m_C i) pc = .ok (.ineg, 1)) (kk : V G i (pc + 1) lv (.int (-x) :: st) h c s Q) : V G i pc lv (.int x :: st) h c s Q :=
  fun X C E H locs cells slots ls hR hL hl h1 h2 => lv_ineg C.1 C.2.1 hd (kk X C E H locs cells slots ls hR hL hl h1 h2)
theorem V.ladd {x y : Int64} (hd : decode (m_C i) pc = .ok (.ladd, 1)) (kk : V G i (pc + 1) lv (.long (x + y) :: st) h c s Q) : V G i pc lv (.long y :: .long x :: st) h c s Q :=
  fun X C E H locs cells slots ls hR hL hl h1 h2 => lv_ladd C.1 C.2.1 hd (kk X C E H locs cells slots ls hR hL hl h1 h2)
theorem V.lsub {x y : Int64} (hd : decode (m_C i) pc = .ok (.lsub, 1)) (kk : V G i (pc + 1) lv (.long (x - y) :: st) h c s Q) : V G i pc lv (.long y :: .long x :: st) h c s Q :=
  fun X C E H locs cells slots ls hR hL hl h1 h2 => lv_lsub C.1 C.2.1 hd (kk X C E H locs cells slots ls hR hL hl h1 h2)
theorem V.lmul {x y : Int64} (hd : decode (m_C i) pc = .ok (.lmul, 1)) (kk : V G i (pc + 1) lv (.long (x * y) :: st) h c s Q) : V G i pc lv (.long y :: .long x :: st) h c s Q :=
  fun X C E H locs cells slots ls hR hL hl h1 h2 => lv_lmul C.1 C.2.1 hd (kk X C E H locs cells slots ls hR hL hl h1 h2)
theorem V.land {x y : Int64} (hd : decode (m_C i) pc = .ok (.land, 1)) (kk : V G i (pc + 1) lv (.long (x &&& y) :: st) h c s Q) : V G i pc lv (.long y :: .long x :: st) h c s Q :=
  fun X C E H locs cells slots ls hR hL hl h1 h2 => lv_land C.1 C.2.1 hd (kk X C E H locs cells slots ls hR hL hl h1 h2)
theorem V.lor {x y : Int64} (hd : decode (m_C i) pc = .ok (.lor, 1)) (kk : V G i (pc + 1) lv (.long (x ||| y) :: st) h c s Q) : V G i pc lv (.long y :: .long x :: st) h c s Q :=
  fun X C E H locs cells slots ls hR hL hl h1 h2 => lv_lor C.1 C.2.1 hd (kk X C E H locs cells slots ls hR hL hl h1 h2)
theorem V.lxor {x y : Int64} (hd : decode (m_C i) pc = .ok (.lxor, 1)) (kk : V G i (pc + 1) lv (.long (x ^^^ y) :: st) h c s Q) : V G i pc lv (.long y :: .long x :: st) h c s Q :=
  fun X C E H locs cells slots ls hR hL hl h1 h2 => lv_lxor C.1 C.2.1 hd (kk X C E H locs cells slots ls hR hL hl h1 h2)
theorem V.lneg {x : Int64} (hd : decode (m_C i) pc = .ok (.lneg, 1)) (kk : V G i (pc + 1) lv (.long (-x) :: st) h c s Q) : V G i pc lv (.long x :: st) h c s Q :=
  fun X C E H locs cells slots ls hR hL hl h1 h2 => lv_lneg C.1 C.2.1 hd (kk X C E H locs cells slots ls hR hL hl h1 h2)
theorem V.i2l {x : Int32} {v : Int64} (hd : decode (m_C i) pc = .ok (.i2l, 1)) (hv : x.toInt64 = v) (kk : V G i (pc + 1) lv (.long v :: st) h c s Q) : V G i pc lv (.int x :: st) h c s Q :=
  fun X C E H locs cells slots ls hR hL hl h1 h2 => lv_i2l C.1 C.2.1 hd hv (kk X C E H locs cells slots ls hR hL hl h1 h2)
theorem V.l2i {x : Int64} {v : Int32} (hd : decode (m_C i) pc = .ok (.l2i, 1)) (hv : x.toInt32 = v) (kk : V G i (pc + 1) lv (.int v :: st) h c s Q) : V G i pc lv (.long x :: st) h c s Q :=
  fun X C E H locs cells slots ls hR hL hl h1 h2 => lv_l2i C.1 C.2.1 hd hv (kk X C E H locs cells slots ls hR hL hl h1 h2)
theorem V.i2b {x : Int32} {v : Int32} (hd : decode (m_C i) pc = .ok (.i2b, 1)) (hv : x.toInt8.toInt32 = v) (kk : V G i (pc + 1) lv (.int v :: st) h c s Q) : V G i pc lv (.int x :: st) h c s Q :=
  fun X C E H locs cells slots ls hR hL hl h1 h2 => lv_i2b C.1 C.2.1 hd hv (kk X C E H locs cells slots ls hR hL hl h1 h2)
theorem V.i2s {x : Int32} {v : Int32} (hd : decode (m_C i) pc = .ok (.i2s, 1)) (hv : x.toInt16.toInt32 = v) (kk : V G i (pc + 1) lv (.int v :: st) h c s Q) : V G i pc lv (.int x :: st) h c s Q :=
  fun X C E H locs cells slots ls hR hL hl h1 h2 => lv_i2s C.1 C.2.1 hd hv (kk X C E H locs cells slots ls hR hL hl h1 h2)
theorem V.i2c {x : Int32} {v : Int32} (hd : decode (m_C i) pc = .ok (.i2c, 1)) (hv : (x.toUInt32 % 65536).toInt32 = v) (kk : V G i (pc + 1) lv (.int v :: st) h c s Q) : V G i pc lv (.int x :: st) h c s Q :=
  fun X C E H locs cells slots ls hR hL hl h1 h2 => lv_i2c C.1 C.2.1 hd hv (kk X C E H locs cells slots ls hR hL hl h1 h2)
theorem V.iushr {x y v : Int32} (hd : decode (m_C i) pc = .ok (.iushr, 1)) (hv : (x.toUInt32 >>> (y.toUInt32 &&& Int32.toUInt32 31)).toInt32 = v) (kk : V G i (pc + 1) lv (.int v :: st) h c s Q) : V G i pc lv (.int y :: .int x :: st) h c s Q :=
  fun X C E H locs cells slots ls hR hL hl h1 h2 => lv_iushr C.1 C.2.1 hd hv (kk X C E H locs cells slots ls hR hL hl h1 h2)
theorem V.lushr {x v : Int64} {y : Int32} (hd : decode (m_C i) pc = .ok (.lushr, 1)) (hv : (x.toUInt64 >>> (y.toInt64.toUInt64 &&& Int64.toUInt64 63)).toInt64 = v) (kk : V G i (pc + 1) lv (.long v :: st) h c s Q) : V G i pc lv (.int y :: .long x :: st) h c s Q :=
  fun X C E H locs cells slots ls hR hL hl h1 h2 => lv_lushr C.1 C.2.1 hd hv (kk X C E H locs cells slots ls hR hL hl h1 h2)
theorem V.lshl {x v : Int64} {y : Int32} (hd : decode (m_C i) pc = .ok (.lshl, 1)) (hv : x <<< (y.toInt64 &&& 63) = v) (kk : V G i (pc + 1) lv (.long v :: st) h c s Q) : V G i pc lv (.int y :: .long x :: st) h c s Q :=
  fun X C E H locs cells slots ls hR hL hl h1 h2 => lv_lshl C.1 C.2.1 hd hv (kk X C E H locs cells slots ls hR hL hl h1 h2)
theorem V.lshr {x v : Int64} {y : Int32} (hd : decode (m_C i) pc = .ok (.lshr, 1)) (hv : x >>> (y.toInt64 &&& 63) = v) (kk : V G i (pc + 1) lv (.long v :: st) h c s Q) : V G i pc lv (.int y :: .long x :: st) h c s Q :=
  fun X C E H locs cells slots ls hR hL hl h1 h2 => lv_lshr C.1 C.2.1 hd hv (kk X C E H locs cells slots ls hR hL hl h1 h2)
theorem V.lcmp {x y : Int64} (hd : decode (m_C i) pc = .ok (.lcmp, 1)) (kk : V G i (pc + 1) lv (.int (lg_cmp x y) :: st) h c s Q) : V G i pc lv (.long y :: .long x :: st) h c s Q :=
  fun X C E H locs cells slots ls hR hL hl h1 h2 => W.lcmp C.1 C.2.1 hd (kk X C E H locs cells slots ls hR hL hl h1 h2)
theorem V.dup {v : Value} (hd : decode (m_C i) pc = .ok (.dup, 1)) (hc : v.category = 1) (kk : V G i (pc + 1) lv (v :: v :: st) h c s Q) : V G i pc lv (v :: st) h c s Q :=
  fun X C E H locs cells slots ls hR hL hl h1 h2 => lv_dup C.1 C.2.1 hd hc (kk X C E H locs cells slots ls hR hL hl h1 h2)
theorem V.pop {v : Value} (hd : decode (m_C i) pc = .ok (.pop, 1)) (hc : v.category = 1) (kk : V G i (pc + 1) lv (st) h c s Q) : V G i pc lv (v :: st) h c s Q :=
  fun X C E H locs cells slots ls hR hL hl h1 h2 => lv_pop C.1 C.2.1 hd hc (kk X C E H locs cells slots ls hR hL hl h1 h2)
theorem V.dup_x1 {v w : Value} (hd : decode (m_C i) pc = .ok (.dup_x1, 1)) (hc : v.category = 1) (hd2 : w.category = 1) (kk : V G i (pc + 1) lv (v :: w :: v :: st) h c s Q) : V G i pc lv (v :: w :: st) h c s Q :=
  fun X C E H locs cells slots ls hR hL hl h1 h2 => lv_dup_x1 C.1 C.2.1 hd hc hd2 (kk X C E H locs cells slots ls hR hL hl h1 h2)
theorem V.dup_x2 {v w z : Value} (hd : decode (m_C i) pc = .ok (.dup_x2, 1)) (hc : v.category = 1) (hd2 : w.category = 1) (hd3 : z.category = 1) (kk : V G i (pc + 1) lv (v :: w :: z :: v :: st) h c s Q) : V G i pc lv (v :: w :: z :: st) h c s Q :=
  fun X C E H locs cells slots ls hR hL hl h1 h2 => lv_dup_x2 C.1 C.2.1 hd hc hd2 hd3 (kk X C E H locs cells slots ls hR hL hl h1 h2)
theorem V.dup2 {v w : Value} (hd : decode (m_C i) pc = .ok (.dup2, 1)) (hc : v.category = 1) (hd2 : w.category = 1) (kk : V G i (pc + 1) lv (v :: w :: v :: w :: st) h c s Q) : V G i pc lv (v :: w :: st) h c s Q :=
  fun X C E H locs cells slots ls hR hL hl h1 h2 => lv_dup2_11 C.1 C.2.1 hd hc hd2 (kk X C E H locs cells slots ls hR hL hl h1 h2)
theorem V.dup2_2 {v : Value} (hd : decode (m_C i) pc = .ok (.dup2, 1)) (hc : v.category = 2) (kk : V G i (pc + 1) lv (v :: v :: st) h c s Q) : V G i pc lv (v :: st) h c s Q :=
  fun X C E H locs cells slots ls hR hL hl h1 h2 => lv_dup2_2 C.1 C.2.1 hd hc (kk X C E H locs cells slots ls hR hL hl h1 h2)
theorem V.pop2_2 {v : Value} (hd : decode (m_C i) pc = .ok (.pop2, 1)) (hc : v.category = 2) (kk : V G i (pc + 1) lv (st) h c s Q) : V G i pc lv (v :: st) h c s Q :=
  fun X C E H locs cells slots ls hR hL hl h1 h2 => lv_pop2_2 C.1 C.2.1 hd hc (kk X C E H locs cells slots ls hR hL hl h1 h2)
theorem V.if_eq {x : Int32} {off : Int} {tgt : Nat} (hd : decode (m_C i) pc = .ok (.ifCond .eq off, 3)) (ht : (pc : Int) + off = (tgt : Int)) (kt : x = 0 → V G i tgt lv st h c s Q) (kf : ¬ x = 0 → V G i (pc + 3) lv st h c s Q) : V G i pc lv (.int x :: st) h c s Q :=
  fun X C E H locs cells slots ls hR hL hl h1 h2 => lv_if_eq C.1 C.2.1 hd ht (fun z => kt z X C E H locs cells slots ls hR hL hl h1 h2) (fun z => kf z X C E H locs cells slots ls hR hL hl h1 h2)
theorem V.icmp_eq {x y : Int32} {off : Int} {tgt : Nat} (hd : decode (m_C i) pc = .ok (.if_icmp .eq off, 3)) (ht : (pc : Int) + off = (tgt : Int)) (kt : x = y → V G i tgt lv st h c s Q) (kf : ¬ x = y → V G i (pc + 3) lv st h c s Q) : V G i pc lv (.int y :: .int x :: st) h c s Q :=
  fun X C E H locs cells slots ls hR hL hl h1 h2 => lv_icmp_eq C.1 C.2.1 hd ht (fun z => kt z X C E H locs cells slots ls hR hL hl h1 h2) (fun z => kf z X C E H locs cells slots ls hR hL hl h1 h2)
theorem V.if_ne {x : Int32} {off : Int} {tgt : Nat} (hd : decode (m_C i) pc = .ok (.ifCond .ne off, 3)) (ht : (pc : Int) + off = (tgt : Int)) (kt : ¬ x = 0 → V G i tgt lv st h c s Q) (kf : x = 0 → V G i (pc + 3) lv st h c s Q) : V G i pc lv (.int x :: st) h c s Q :=
  fun X C E H locs cells slots ls hR hL hl h1 h2 => lv_if_ne C.1 C.2.1 hd ht (fun z => kt z X C E H locs cells slots ls hR hL hl h1 h2) (fun z => kf z X C E H locs cells slots ls hR hL hl h1 h2)
theorem V.icmp_ne {x y : Int32} {off : Int} {tgt : Nat} (hd : decode (m_C i) pc = .ok (.if_icmp .ne off, 3)) (ht : (pc : Int) + off = (tgt : Int)) (kt : ¬ x = y → V G i tgt lv st h c s Q) (kf : x = y → V G i (pc + 3) lv st h c s Q) : V G i pc lv (.int y :: .int x :: st) h c s Q :=
  fun X C E H locs cells slots ls hR hL hl h1 h2 => lv_icmp_ne C.1 C.2.1 hd ht (fun z => kt z X C E H locs cells slots ls hR hL hl h1 h2) (fun z => kf z X C E H locs cells slots ls hR hL hl h1 h2)
theorem V.if_lt {x : Int32} {off : Int} {tgt : Nat} (hd : decode (m_C i) pc = .ok (.ifCond .lt off, 3)) (ht : (pc : Int) + off = (tgt : Int)) (kt : x < 0 → V G i tgt lv st h c s Q) (kf : ¬ x < 0 → V G i (pc + 3) lv st h c s Q) : V G i pc lv (.int x :: st) h c s Q :=
  fun X C E H locs cells slots ls hR hL hl h1 h2 => lv_if_lt C.1 C.2.1 hd ht (fun z => kt z X C E H locs cells slots ls hR hL hl h1 h2) (fun z => kf z X C E H locs cells slots ls hR hL hl h1 h2)
theorem V.icmp_lt {x y : Int32} {off : Int} {tgt : Nat} (hd : decode (m_C i) pc = .ok (.if_icmp .lt off, 3)) (ht : (pc : Int) + off = (tgt : Int)) (kt : x < y → V G i tgt lv st h c s Q) (kf : ¬ x < y → V G i (pc + 3) lv st h c s Q) : V G i pc lv (.int y :: .int x :: st) h c s Q :=
  fun X C E H locs cells slots ls hR hL hl h1 h2 => lv_icmp_lt C.1 C.2.1 hd ht (fun z => kt z X C E H locs cells slots ls hR hL hl h1 h2) (fun z => kf z X C E H locs cells slots ls hR hL hl h1 h2)
theorem V.if_ge {x : Int32} {off : Int} {tgt : Nat} (hd : decode (m_C i) pc = .ok (.ifCond .ge off, 3)) (ht : (pc : Int) + off = (tgt : Int)) (kt : 0 ≤ x → V G i tgt lv st h c s Q) (kf : ¬ 0 ≤ x → V G i (pc + 3) lv st h c s Q) : V G i pc lv (.int x :: st) h c s Q :=
  fun X C E H locs cells slots ls hR hL hl h1 h2 => lv_if_ge C.1 C.2.1 hd ht (fun z => kt z X C E H locs cells slots ls hR hL hl h1 h2) (fun z => kf z X C E H locs cells slots ls hR hL hl h1 h2)
theorem V.icmp_ge {x y : Int32} {off : Int} {tgt : Nat} (hd : decode (m_C i) pc = .ok (.if_icmp .ge off, 3)) (ht : (pc : Int) + off = (tgt : Int)) (kt : y ≤ x → V G i tgt lv st h c s Q) (kf : ¬ y ≤ x → V G i (pc + 3) lv st h c s Q) : V G i pc lv (.int y :: .int x :: st) h c s Q :=
  fun X C E H locs cells slots ls hR hL hl h1 h2 => lv_icmp_ge C.1 C.2.1 hd ht (fun z => kt z X C E H locs cells slots ls hR hL hl h1 h2) (fun z => kf z X C E H locs cells slots ls hR hL hl h1 h2)
theorem V.if_gt {x : Int32} {off : Int} {tgt : Nat} (hd : decode (m_C i) pc = .ok (.ifCond .gt off, 3)) (ht : (pc : Int) + off = (tgt : Int)) (kt : 0 < x → V G i tgt lv st h c s Q) (kf : ¬ 0 < x → V G i (pc + 3) lv st h c s Q) : V G i pc lv (.int x :: st) h c s Q :=
  fun X C E H locs cells slots ls hR hL hl h1 h2 => lv_if_gt C.1 C.2.1 hd ht (fun z => kt z X C E H locs cells slots ls hR hL hl h1 h2) (fun z => kf z X C E H locs cells slots ls hR hL hl h1 h2)
theorem V.icmp_gt {x y : Int32} {off : Int} {tgt : Nat} (hd : decode (m_C i) pc = .ok (.if_icmp .gt off, 3)) (ht : (pc : Int) + off = (tgt : Int)) (kt : y < x → V G i tgt lv st h c s Q) (kf : ¬ y < x → V G i (pc + 3) lv st h c s Q) : V G i pc lv (.int y :: .int x :: st) h c s Q :=
  fun X C E H locs cells slots ls hR hL hl h1 h2 => lv_icmp_gt C.1 C.2.1 hd ht (fun z => kt z X C E H locs cells slots ls hR hL hl h1 h2) (fun z => kf z X C E H locs cells slots ls hR hL hl h1 h2)
theorem V.if_le {x : Int32} {off : Int} {tgt : Nat} (hd : decode (m_C i) pc = .ok (.ifCond .le off, 3)) (ht : (pc : Int) + off = (tgt : Int)) (kt : x ≤ 0 → V G i tgt lv st h c s Q) (kf : ¬ x ≤ 0 → V G i (pc + 3) lv st h c s Q) : V G i pc lv (.int x :: st) h c s Q :=
  fun X C E H locs cells slots ls hR hL hl h1 h2 => lv_if_le C.1 C.2.1 hd ht (fun z => kt z X C E H locs cells slots ls hR hL hl h1 h2) (fun z => kf z X C E H locs cells slots ls hR hL hl h1 h2)
theorem V.icmp_le {x y : Int32} {off : Int} {tgt : Nat} (hd : decode (m_C i) pc = .ok (.if_icmp .le off, 3)) (ht : (pc : Int) + off = (tgt : Int)) (kt : x ≤ y → V G i tgt lv st h c s Q) (kf : ¬ x ≤ y → V G i (pc + 3) lv st h c s Q) : V G i pc lv (.int y :: .int x :: st) h c s Q :=
  fun X C E H locs cells slots ls hR hL hl h1 h2 => lv_icmp_le C.1 C.2.1 hd ht (fun z => kt z X C E H locs cells slots ls hR hL hl h1 h2) (fun z => kf z X C E H locs cells slots ls hR hL hl h1 h2)
theorem V.acmp_eq {rx ry : Option Nat} {off : Int} {tgt : Nat} (hd : decode (m_C i) pc = .ok (.if_acmp .eq off, 3)) (ht : (pc : Int) + off = (tgt : Int)) (kt : rx = ry → V G i tgt lv st h c s Q) (kf : ¬ rx = ry → V G i (pc + 3) lv st h c s Q) : V G i pc lv (va_rf ry :: va_rf rx :: st) h c s Q :=
  fun X C E H locs cells slots ls hR hL hl h1 h2 => lv_acmp_eq C.1 C.2.1 hd ht (fun z => kt z X C E H locs cells slots ls hR hL hl h1 h2) (fun z => kf z X C E H locs cells slots ls hR hL hl h1 h2)
theorem V.acmp_ne {rx ry : Option Nat} {off : Int} {tgt : Nat} (hd : decode (m_C i) pc = .ok (.if_acmp .ne off, 3)) (ht : (pc : Int) + off = (tgt : Int)) (kt : ¬ rx = ry → V G i tgt lv st h c s Q) (kf : rx = ry → V G i (pc + 3) lv st h c s Q) : V G i pc lv (va_rf ry :: va_rf rx :: st) h c s Q :=
  fun X C E H locs cells slots ls hR hL hl h1 h2 => lv_acmp_ne C.1 C.2.1 hd ht (fun z => kt z X C E H locs cells slots ls hR hL hl h1 h2) (fun z => kf z X C E H locs cells slots ls hR hL hl h1 h2)
theorem V.goto {off : Int} {tgt : Nat} (hd : decode (m_C i) pc = .ok (.goto off, 3)) (ht : (pc : Int) + off = (tgt : Int)) (kk : V G i (tgt) lv st h c s Q) : V G i pc lv (st) h c s Q :=
  fun X C E H locs cells slots ls hR hL hl h1 h2 => lv_goto C.1 C.2.1 hd ht (kk X C E H locs cells slots ls hR hL hl h1 h2)
theorem V.ifnonnull {x : Nat} {off : Int} {tgt : Nat} (hd : decode (m_C i) pc = .ok (.ifnonnull off, 3)) (ht : (pc : Int) + off = (tgt : Int)) (kk : V G i (tgt) lv st h c s Q) : V G i pc lv (.ref x :: st) h c s Q :=
  fun X C E H locs cells slots ls hR hL hl h1 h2 => lv_ifnonnull C.1 C.2.1 hd ht (kk X C E H locs cells slots ls hR hL hl h1 h2)
theorem V.ifnull {x : Nat} {off : Int} (hd : decode (m_C i) pc = .ok (.ifnull off, 3)) (kk : V G i (pc + 3) lv st h c s Q) : V G i pc lv (.ref x :: st) h c s Q :=
  fun X C E H locs cells slots ls hR hL hl h1 h2 => lv_ifnull C.1 C.2.1 hd (kk X C E H locs cells slots ls hR hL hl h1 h2)
theorem V.ifnullN {off : Int} {tgt : Nat} (hd : decode (m_C i) pc = .ok (.ifnull off, 3)) (ht : (pc : Int) + off = (tgt : Int)) (kk : V G i (tgt) lv st h c s Q) : V G i pc lv (.null :: st) h c s Q :=
  fun X C E H locs cells slots ls hR hL hl h1 h2 => lv_ifnullN C.1 C.2.1 hd ht (kk X C E H locs cells slots ls hR hL hl h1 h2)
theorem V.ifnonnullN {off : Int} (hd : decode (m_C i) pc = .ok (.ifnonnull off, 3)) (kk : V G i (pc + 3) lv st h c s Q) : V G i pc lv (.null :: st) h c s Q :=
  fun X C E H locs cells slots ls hR hL hl h1 h2 => lv_ifnonnullN C.1 C.2.1 hd (kk X C E H locs cells slots ls hR hL hl h1 h2)
theorem V.lookup {dflt : Int} {ps : Array (Int × Int)} {len : Nat} {x : Int32} {off : Int} {tgt : Nat} (hd : decode (m_C i) pc = .ok (.lookupswitch dflt ps, len)) (hp : (ps.toList.zip (ps.toList.drop 1)).all (fun (a, next) => a.1 < next.1) = true) (ho : Op.lookupswitch.offset ps.toList dflt x.toInt = off) (ht : (pc : Int) + off = (tgt : Int)) (kk : V G i tgt lv st h c s Q) : V G i pc lv (.int x :: st) h c s Q :=
  fun X C E H locs cells slots ls hR hL hl h1 h2 => lv_lookup C.1 C.2.1 hd hp ho ht (kk X C E H locs cells slots ls hR hL hl h1 h2)
theorem V.tableOut {dflt lo hi : Int} {offs : Array Int} {len : Nat} {x : Int32} {tgt : Nat} (hd : decode (m_C i) pc = .ok (.tableswitch dflt lo hi offs, len)) (hx : x.toInt < lo ∨ hi < x.toInt) (ht : (pc : Int) + dflt = (tgt : Int)) (kk : V G i tgt lv st h c s Q) : V G i pc lv (.int x :: st) h c s Q :=
  fun X C E H locs cells slots ls hR hL hl h1 h2 => lv_tableOut C.1 C.2.1 hd hx ht (kk X C E H locs cells slots ls hR hL hl h1 h2)
theorem V.tableIn {dflt lo hi : Int} {offs : Array Int} {len : Nat} {x : Int32} {off : Int} {tgt : Nat} (hd : decode (m_C i) pc = .ok (.tableswitch dflt lo hi offs, len)) (hx1 : ¬ x.toInt < lo) (hx2 : ¬ hi < x.toInt) (ho : offs[(x.toInt - lo).toNat]? = some off) (ht : (pc : Int) + off = (tgt : Int)) (kk : V G i tgt lv st h c s Q) : V G i pc lv (.int x :: st) h c s Q :=
  fun X C E H locs cells slots ls hR hL hl h1 h2 => lv_tableIn C.1 C.2.1 hd hx1 hx2 ho ht (kk X C E H locs cells slots ls hR hL hl h1 h2)
/-- an int constant of the pool -/
theorem V.ldc {idx : Nat} {v : Int32} (hd : decode (m_C i) pc = .ok (.ldc idx, 2)) (hw : Jvm.Cond.constant (m_Y i).cls idx v ∈ tb) (kk : V G i (pc + 2) lv (.int v :: st) h c s Q) : V G i pc lv st h c s Q :=
  fun X C E H locs cells slots ls hR hL hl h1 h2 => lv_ldc C.1 C.2.1 C.2.2.2.2.2.1 (C.2.2.2.2.2.2.1 _ hw) hd (kk X C E H locs cells slots ls hR hL hl h1 h2)
theorem V.ldc2 {idx : Nat} {v : Int64} (hd : decode (m_C i) pc = .ok (.ldc2_w idx, 3)) (hw : Jvm.Cond.constantLong (m_Y i).cls idx v ∈ tb) (kk : V G i (pc + 3) lv (.long v :: st) h c s Q) : V G i pc lv st h c s Q :=
  fun X C E H locs cells slots ls hR hL hl h1 h2 => lv_ldc2 C.1 C.2.1 C.2.2.2.2.2.1 (C.2.2.2.2.2.2.1 _ hw) hd (kk X C E H locs cells slots ls hR hL hl h1 h2)
theorem V.ireturn {v : Int32} {ty : FieldType} (hd : decode (m_C i) pc = .ok (.ireturn, 1)) (hr : m_R i = some ty) (hn : narrow ty (.int v) = .int v) (hq : Q (some (.int v)) h) : V G i pc lv [.int v] h c s Q :=
  fun X C E H locs cells slots ls hR hL hl h1 h2 => W.widen (Nat.le_trans (Nat.le_add_right _ _) h1) (Nat.le_trans (Nat.le_add_right _ _) h2) (E pc ls H locs (some (.int v)) h hq hR hL ⟨hd, ty, hr, hn⟩)
theorem V.lreturn {v : Int64} (hd : decode (m_C i) pc = .ok (.lreturn, 1)) (hr : m_R i = some .long) (hq : Q (some (.long v)) h) : V G i pc lv [.long v] h c s Q :=
  fun X C E H locs cells slots ls hR hL hl h1 h2 => W.widen (Nat.le_trans (Nat.le_add_right _ _) h1) (Nat.le_trans (Nat.le_add_right _ _) h2) (E pc ls H locs (some (.long v)) h hq hR hL ⟨hd, hr⟩)
theorem V.areturn {a : Nat} {rt : FieldType} (hd : decode (m_C i) pc = .ok (.areturn, 1)) (hr : m_R i = some rt) (ho : (∃ n, rt = .object n) ∨ ∃ t, rt = .array t) (hq : Q (some (.ref a)) h) : V G i pc lv [.ref a] h c s Q :=
  fun X C E H locs cells slots ls hR hL hl h1 h2 => W.widen (Nat.le_trans (Nat.le_add_right _ _) h1) (Nat.le_trans (Nat.le_add_right _ _) h2) (E pc ls H locs (some (.ref a)) h hq hR hL ⟨hd, rt, hr, ho⟩)
theorem V.areturnN {rt : FieldType} (hd : decode (m_C i) pc = .ok (.areturn, 1)) (hr : m_R i = some rt) (ho : (∃ n, rt = .object n) ∨ ∃ t, rt = .array t) (hq : Q (some .null) h) : V G i pc lv [.null] h c s Q :=
  fun X C E H locs cells slots ls hR hL hl h1 h2 => W.widen (Nat.le_trans (Nat.le_add_right _ _) h1) (Nat.le_trans (Nat.le_add_right _ _) h2) (E pc ls H locs (some .null) h hq hR hL ⟨hd, rt, hr, ho⟩)
theorem V.vreturn (hd : decode (m_C i) pc = .ok (.return_, 1)) (hr : m_R i = none) (hq : Q (none) h) : V G i pc lv [] h c s Q :=
  fun X C E H locs cells slots ls hR hL hl h1 h2 => W.widen (Nat.le_trans (Nat.le_add_right _ _) h1) (Nat.le_trans (Nat.le_add_right _ _) h2) (E pc ls H locs (none) h hq hR hL ⟨hd, hr⟩)
end VI
