/-! numbers: what the walks' comparisons say -/
def bI (b : Bool) : Int32 := match b with
  | true => nI 1
  | false => nI 0
theorem bI_eq0 {b : Bool} : bI b = 0 ↔ b = false := by cases b <;> decide
theorem bI_nar {b : Bool} : narrow .boolean (.int (bI b)) = .int (bI b) := by cases b <;> decide
theorem zz_lt0 {a : Nat} (h : a < 2 ^ 31) : nI a < 0 ↔ False := ⟨fun q => nI_pos h q, False.elim⟩
theorem zz_ge0 {a : Nat} (h : a < 2 ^ 31) : 0 ≤ nI a ↔ True := ⟨fun _ => trivial, fun _ => nI_pos' h⟩
theorem zz_gt0 {a : Nat} (h : a < 2 ^ 31) : 0 < nI a ↔ 0 < a := by
  have h9 := nI_ltI (a := 0) (b := a) (by omega) h
  rw [nI_0] at h9
  exact h9
theorem zz_le0 {a : Nat} (h : a < 2 ^ 31) : nI a ≤ 0 ↔ a = 0 := by
  have h9 := nI_leI (a := a) (b := 0) h (by omega)
  rw [nI_0] at h9
  rw [h9]
  omega
theorem zz_eq0 {a : Nat} (h : a < 2 ^ 31) : nI a = 0 ↔ a = 0 := by
  have h9 := nI_eq (a := a) (b := 0) h (by omega)
  rw [nI_0] at h9
  exact h9
theorem zz_m1lt : (-1 : Int32) < 0 ↔ True := by decide
theorem zz_m1ge : (0 : Int32) ≤ -1 ↔ False := by decide
theorem zz_m1eq {a : Nat} (h : a < 2 ^ 31) : nI a = -1 ↔ False := ⟨fun q => by
  have h9 := nI_pos h
  rw [q] at h9
  exact h9 (by decide), False.elim⟩
section VN2
variable {G : GG} {i : MM} {pc : Nat} {lv : List (Nat × Value)} {st : List Value} {h : HH} {c s : Nat} {Q Q' : Option Value → HH → Prop}
theorem V.iaddN {a b : Nat} (hd : decode (m_C i) pc = .ok (.iadd, 1)) (kk : V G i (pc + 1) lv (.int (nI (a + b)) :: st) h c s Q) : V G i pc lv (.int (nI b) :: .int (nI a) :: st) h c s Q :=
  V.iadd hd (by rw [nI_add]; exact kk)
theorem V.isubN {a b : Nat} (hd : decode (m_C i) pc = .ok (.isub, 1)) (hab : b ≤ a) (kk : V G i (pc + 1) lv (.int (nI (a - b)) :: st) h c s Q) : V G i pc lv (.int (nI b) :: .int (nI a) :: st) h c s Q :=
  V.isub hd (by rw [pk_sub hab]; exact kk)
theorem V.imulN {a b : Nat} (hd : decode (m_C i) pc = .ok (.imul, 1)) (kk : V G i (pc + 1) lv (.int (nI (a * b)) :: st) h c s Q) : V G i pc lv (.int (nI b) :: .int (nI a) :: st) h c s Q :=
  V.imul hd (by rw [pk_mul]; exact kk)
theorem V.iincN {n a : Nat} (hd : decode (m_C i) pc = .ok (.iinc n 1, 3)) (hv : l_at lv n = some (.int (nI a))) (hn : n < m_L i) (kk : V G i (pc + 3) (l_set lv n (.int (nI (a + 1)))) st h c s Q) : V G i pc lv st h c s Q :=
  V.iinc hd hv (by rw [show Int32.ofInt 1 = 1 by decide]; exact nI_1 a) hn kk
theorem V.iincM {n a : Nat} (hd : decode (m_C i) pc = .ok (.iinc n (-1), 3)) (hv : l_at lv n = some (.int (nI (a + 1)))) (hn : n < m_L i) (kk : V G i (pc + 3) (l_set lv n (.int (nI a))) st h c s Q) : V G i pc lv st h c s Q :=
  V.iinc hd hv (by rw [show Int32.ofInt (-1) = -1 by decide]; exact pk_m1 a) hn kk
theorem V.getk {a idx k kd : Nat} {v : Value} (hd : decode (m_C i) pc = .ok (.getfield idx, 3)) (ha : g_0 G ≤ a ∧ a < h.2.2) (hk : (h.1 a).1 = kd) (hf : f_ok (m_Y i).cls idx kd k) (hv : h.2.1 a k = v) (kk : V G i (pc + 3) lv (v :: st) h c s Q) : V G i pc lv (.ref a :: st) h c s Q :=
  V.getf hd ha (by rw [hk]; exact hf) hv kk
theorem V.putk {a idx k kd : Nat} {v : Value} {ty : FieldType} (hd : decode (m_C i) pc = .ok (.putfield idx, 3)) (ha : g_0 G ≤ a ∧ a < h.2.2) (hk : (h.1 a).1 = kd) (hf : p_ok (m_Y i).cls idx kd k ty ((m_Y i).name = "<init>")) (hn : narrow ty v = v) (hfit : fits ty v = true) (kk : ∀ h', h' = h_put h a k v → V G i (pc + 3) lv st h' c s Q) : V G i pc lv (v :: .ref a :: st) h c s Q :=
  V.putf hd ha (by rw [hk]; exact hf) hn hfit (kk _ rfl)
theorem V.callVk {j : MM} {n idx b kd : Nat} {r : vw_C} (c1 c2 s1 s2 : Nat) (As : List Value) {rest st0 : List Value} (hd : decode (m_C i) pc = .ok (.invokevirtual idx, 3)) (hj : m_ok j n) (hk : n_ok (m_Y i).cls idx j) (hb : g_0 G ≤ b ∧ b < h.2.2) (hkb : (h.1 b).1 = kd) (hkd : vwCl[kd]? = some r) (him : Cond.instanceMethod (m_Y j) ∈ tb) (hse : Cond.selects r.1 (m_Y j) (m_Y j) ∈ tb) (hD : m_D j < m_D i) (hW : 19 + m_L j + m_W j ≤ m_W i) (hst : st0 = As.reverse ++ .ref b :: rest) (hn : As.length = n) (hl : (lg_sl (.ref b :: As)).length ≤ m_L j) (hw : (rest.map fun v => v.category).sum ≤ 8) (hc : c1 + c2 ≤ c) (hs : s1 + s2 ≤ s)
    (kk : V G j 0 (lv_args 0 (.ref b :: As)) [] h c1 s1 (fun r h' => V G i (pc + 3) lv (r.toList ++ rest) h' c2 s2 Q)) : V G i pc lv st0 h c s Q :=
  V.callV c1 c2 s1 s2 As hd hj hk hb (by rw [hkb]; exact hkd) him hse hD hW hst hn hl hw hc hs kk
theorem V.callUk {j : MM} {n idx b kd : Nat} {r : vw_C} (c1 c2 s1 s2 : Nat) (As : List Value) {rest st0 : List Value} {x : MethodName} (hd : decode (m_C i) pc = .ok (.invokevirtual idx, 3)) (hj : m_ok j n) (hw1 : Cond.methodLink (m_Y i).cls idx x ∈ tb) (hw2 : Cond.sameMethod x.cls (m_Y j).cls x.name x.desc ∈ tb) (hxy : m_Y j = ⟨(m_Y j).cls, x.name, x.desc⟩) (hb : g_0 G ≤ b ∧ b < h.2.2) (hkb : (h.1 b).1 = kd) (hkd : vwCl[kd]? = some r) (him : Cond.instanceMethod (m_Y j) ∈ tb) (hse : Cond.selects r.1 x (m_Y j) ∈ tb) (hD : m_D j < m_D i) (hW : 19 + m_L j + m_W j ≤ m_W i) (hst : st0 = As.reverse ++ .ref b :: rest) (hn : As.length = n) (hl : (lg_sl (.ref b :: As)).length ≤ m_L j) (hw : (rest.map fun v => v.category).sum ≤ 8) (hc : c1 + c2 ≤ c) (hs : s1 + s2 ≤ s)
    (kk : V G j 0 (lv_args 0 (.ref b :: As)) [] h c1 s1 (fun r h' => V G i (pc + 3) lv (r.toList ++ rest) h' c2 s2 Q)) : V G i pc lv st0 h c s Q :=
  V.callU c1 c2 s1 s2 As hd hj hw1 hw2 hxy hb (by rw [hkb]; exact hkd) him hse hD hW hst hn hl hw hc hs kk
theorem V.alenN {a kd n : Nat} {ty : FieldType} (hd : decode (m_C i) pc = .ok (.arraylength, 1)) (ha : g_0 G ≤ a ∧ a < h.2.2) (hk : h.1 a = (kd, n)) (ht : k_ty kd = some ty) (kk : V G i (pc + 1) lv (.int (nI n) :: st) h c s Q) : V G i pc lv (.ref a :: st) h c s Q :=
  V.alen hd ha (by rw [hk]; exact ht) (by rw [hk]) kk
theorem V.ialoadN {a j n : Nat} {v : Value} (hd : decode (m_C i) pc = .ok (.iaload, 1)) (ha : g_0 G ≤ a ∧ a < h.2.2) (hk : h.1 a = (104, n)) (hj : j < n ∧ n < 2 ^ 31) (hv : h.2.1 a j = v) (kk : V G i (pc + 1) lv (v :: st) h c s Q) : V G i pc lv (.int (nI j) :: .ref a :: st) h c s Q :=
  V.iaload hd ha (by rw [hk]; rfl) (by rw [hk]; exact vp_in_nI hj.1 hj.2) (by rw [nI_clamp (by omega)]; exact hv) kk
theorem V.caloadN {a j n : Nat} {v : Value} (hd : decode (m_C i) pc = .ok (.caload, 1)) (ha : g_0 G ≤ a ∧ a < h.2.2) (hk : h.1 a = (101, n)) (hj : j < n ∧ n < 2 ^ 31) (hv : h.2.1 a j = v) (kk : V G i (pc + 1) lv (v :: st) h c s Q) : V G i pc lv (.int (nI j) :: .ref a :: st) h c s Q :=
  V.caload hd ha (by rw [hk]; rfl) (by rw [hk]; exact vp_in_nI hj.1 hj.2) (by rw [nI_clamp (by omega)]; exact hv) kk
theorem V.baloadN {a j n : Nat} {v : Value} (hd : decode (m_C i) pc = .ok (.baload, 1)) (ha : g_0 G ≤ a ∧ a < h.2.2) (hk : h.1 a = (102, n)) (hj : j < n ∧ n < 2 ^ 31) (hv : h.2.1 a j = v) (kk : V G i (pc + 1) lv (v :: st) h c s Q) : V G i pc lv (.int (nI j) :: .ref a :: st) h c s Q :=
  V.baload hd ha (by rw [hk]; rfl) (by rw [hk]; exact vp_in_nI hj.1 hj.2) (by rw [nI_clamp (by omega)]; exact hv) kk
theorem V.saloadN {a j n : Nat} {v : Value} (hd : decode (m_C i) pc = .ok (.saload, 1)) (ha : g_0 G ≤ a ∧ a < h.2.2) (hk : h.1 a = (103, n)) (hj : j < n ∧ n < 2 ^ 31) (hv : h.2.1 a j = v) (kk : V G i (pc + 1) lv (v :: st) h c s Q) : V G i pc lv (.int (nI j) :: .ref a :: st) h c s Q :=
  V.saload hd ha (by rw [hk]; rfl) (by rw [hk]; exact vp_in_nI hj.1 hj.2) (by rw [nI_clamp (by omega)]; exact hv) kk
theorem V.iastoreN {a j n : Nat} {x : Int32} {v : Value} (hd : decode (m_C i) pc = .ok (.iastore, 1)) (ha : g_0 G ≤ a ∧ a < h.2.2) (hk : h.1 a = (104, n)) (hj : j < n ∧ n < 2 ^ 31) (hv : .int x = v) (kk : ∀ h', h' = h_put h a j v → V G i (pc + 1) lv st h' c s Q) : V G i pc lv (.int x :: .int (nI j) :: .ref a :: st) h c s Q :=
  V.iastore hd ha (by rw [hk]; rfl) (by rw [hk]; exact vp_in_nI hj.1 hj.2) hv (by rw [nI_clamp (by omega)]; exact kk _ rfl)
theorem V.castoreN {a j n : Nat} {x : Int32} {v : Value} (hd : decode (m_C i) pc = .ok (.castore, 1)) (ha : g_0 G ≤ a ∧ a < h.2.2) (hk : h.1 a = (101, n)) (hj : j < n ∧ n < 2 ^ 31) (hv : narrow .char (.int x) = v) (kk : ∀ h', h' = h_put h a j v → V G i (pc + 1) lv st h' c s Q) : V G i pc lv (.int x :: .int (nI j) :: .ref a :: st) h c s Q :=
  V.castore hd ha (by rw [hk]; rfl) (by rw [hk]; exact vp_in_nI hj.1 hj.2) hv (by rw [nI_clamp (by omega)]; exact kk _ rfl)
theorem V.bastoreN {a j n : Nat} {x : Int32} {v : Value} (hd : decode (m_C i) pc = .ok (.bastore, 1)) (ha : g_0 G ≤ a ∧ a < h.2.2) (hk : h.1 a = (102, n)) (hj : j < n ∧ n < 2 ^ 31) (hv : narrow .byte (.int x) = v) (kk : ∀ h', h' = h_put h a j v → V G i (pc + 1) lv st h' c s Q) : V G i pc lv (.int x :: .int (nI j) :: .ref a :: st) h c s Q :=
  V.bastore hd ha (by rw [hk]; rfl) (by rw [hk]; exact vp_in_nI hj.1 hj.2) hv (by rw [nI_clamp (by omega)]; exact kk _ rfl)
theorem V.sastoreN {a j n : Nat} {x : Int32} {v : Value} (hd : decode (m_C i) pc = .ok (.sastore, 1)) (ha : g_0 G ≤ a ∧ a < h.2.2) (hk : h.1 a = (103, n)) (hj : j < n ∧ n < 2 ^ 31) (hv : narrow .short (.int x) = v) (kk : ∀ h', h' = h_put h a j v → V G i (pc + 1) lv st h' c s Q) : V G i pc lv (.int x :: .int (nI j) :: .ref a :: st) h c s Q :=
  V.sastore hd ha (by rw [hk]; rfl) (by rw [hk]; exact vp_in_nI hj.1 hj.2) hv (by rw [nI_clamp (by omega)]; exact kk _ rfl)
theorem V.re {lv' : List (Nat × Value)} (ks : List Nat) (hl : ks.filterMap (fun n => (l_at lv n).map (fun v => (n, v))) = lv') (kk : V G i pc lv' st h c s Q) : V G i pc lv st h c s Q := by
  intro X C E H locs cells slots ls hR hL hlv h1 h2
  refine kk X C E H locs cells slots ls hR hL ⟨hlv.1, hlv.2.1, fun q hq => ?_⟩ h1 h2
  rw [← hl] at hq
  obtain ⟨n, -, hn⟩ := List.mem_filterMap.mp hq
  cases hv : l_at lv n with
  | none => rw [hv] at hn; cases hn
  | some v =>
    rw [hv] at hn
    cases hn
    exact l_get hlv hv
end VN2
/-! heaps after a store, by places -/
theorem hp_k {h : HH} {a k : Nat} {v : Value} : (h_put h a k v).1 = h.1 := rfl
theorem hp_z {h : HH} {a k : Nat} {v : Value} : (h_put h a k v).2.2 = h.2.2 := rfl
theorem hp_eq {h : HH} {a k : Nat} {v : Value} : (h_put h a k v).2.1 a k = v := by show (if a = a ∧ k = k then v else _) = v; simp
theorem hp_ne {h : HH} {a k b j : Nat} {v : Value} (e : ¬ (b = a ∧ j = k)) : (h_put h a k v).2.1 b j = h.2.1 b j := by show (if b = a ∧ j = k then v else _) = _; rw [if_neg e]
theorem hp_a {h : HH} {a k b j : Nat} {v : Value} (e : b ≠ a) : (h_put h a k v).2.1 b j = h.2.1 b j := hp_ne (fun q => e q.1)
theorem hp_j {h : HH} {a k b j : Nat} {v : Value} (e : j ≠ k) : (h_put h a k v).2.1 b j = h.2.1 b j := hp_ne (fun q => e q.2)
