section VCL
variable {G : GG} {i : MM} {pc : Nat} {lv : List (Nat × Value)} {st : List Value} {h : HH} {c s : Nat} {Q Q' : Option Value → HH → Prop}
theorem tb_good : GoodIn tb tb := fun w hw => ⟨hw, good_of_word (List.mem_filter.mp hw).2⟩
/-- method j, of n parameters, can be called: its code is known, its class is ready -/
def m_ok (j : MM) (n : Nat) : Prop := Cond.code (m_Y j) (m_C j) (m_L j) (m_R j) ∈ tb ∧ Cond.initialized (m_Y j).cls ∈ tb ∧ plainName (m_Y j).cls = true ∧
  ((m_Y j).cls ≠ "java/lang/invoke/MethodHandle" ∧ (m_Y j).cls ≠ "java/lang/invoke/VarHandle" ∧ (parseMethodDescriptor (m_Y j).desc).map (fun d => d.parameters.length) = some n) ∧ m_L j ≤ 45
theorem m_ok.good {j : MM} {n : Nat} (hj : m_ok j n) : GoodIn tb (Cond.code (m_Y j) (m_C j) (m_L j) (m_R j) :: tb) := fun w hw => by
  rcases List.mem_cons.mp hw with e | e
  · subst e; exact tb_good _ hj.1
  · exact tb_good _ e
def p_r (G : GG) (As : List Value) (h : HH) : Array Value → State → Prop := fun a U => a = As.toArray ∧ Rep G h U.heap ∧ KK G U
def q_r (G : GG) (Q : Option Value → HH → Prop) : Array Value → State → Outcome → State → Prop := fun _ _ o t => ∃ r h', o = .returned r ∧ Q r h' ∧ Rep G h' t.heap
theorem Met.ofV {j : MM} {n : Nat} {As : List Value} (hj : m_ok j n) (hl : (lg_sl As).length ≤ m_L j) (kk : V G j 0 (lv_args 0 As) [] h c s Q) :
    Met (g_l G) (m_Y j) (Cond.code (m_Y j) (m_C j) (m_L j) (m_R j) :: tb) ({ frames := m_D j, cells := c, slots := s, locals := m_W j }) (p_r G As h) (q_r G Q) c s (fun q => g_0 G ≤ q) := by
  refine Met.ofW (cc := m_C j) (maxL := m_L j) (ret := m_R j) hj.2.2.1 rfl ?_
  intro p e s0 m args below meth cd s₁ B hml hv
  obtain ⟨rfl, hR, hK⟩ := hv
  have hts := atoms_spec (ws := Cond.code (m_Y j) (m_C j) (m_L j) (m_R j) :: tb) B.pre
  have hlocks := B.notSynchronized
  rw [lg_entry_eq]
  refine kk (p, e, _, s0, m, As.toArray, below, meth, cd, MQ below (q_r G Q) As.toArray s0 c s (fun q => g_0 G ≤ q), c, s)
    ⟨B.exec, B.bytes, B.returns, B.notSynchronized, hml, findClass_of_methodNamed B.named, fun w hw => hts w (List.mem_cons_of_mem _ hw), hK, fun e => (name_of_methodNamed B.named B.method).1.trans e, Nat.le_refl _, Nat.le_refl _, Nat.le_refl _, Nat.le_refl _⟩
    ?_ s0.heap [] 0 0 _ hR (fun q h => by cases h) (lv_entry As hl) (Nat.le_of_eq (Nat.zero_add _)) (Nat.le_of_eq (Nat.zero_add _))
  intro pc ls H locs r h' hq hR' hL' hr
  cases r with
  | none => exact W.vret B.exec B.bytes (B.returns.trans hr.2) (fun t ht hW => ⟨none, h', rfl, hq, by rw [ht]; exact hR'⟩) hL' hr.1
  | some v =>
    cases v with
    | int v =>
      obtain ⟨hd, ty, hr1, hr2⟩ := hr
      exact W.zret B.exec B.bytes (B.returns.trans hr1) hr2 (fun t ht hW => ⟨_, h', rfl, hq, by rw [ht]; exact hR'⟩) hL' hd
    | long v => exact W.lret B.exec B.bytes (B.returns.trans hr.2) (fun t ht hW => ⟨_, h', rfl, hq, by rw [ht]; exact hR'⟩) hL' hr.1
    | null =>
      obtain ⟨hd, rt, hr1, hr2⟩ := hr
      exact W.aret B.exec B.bytes (B.returns.trans hr1) hr2 (Or.inl rfl) (fun t ht hW => ⟨_, h', rfl, hq, by rw [ht]; exact hR'⟩) hL' hd
    | ref a =>
      obtain ⟨hd, rt, hr1, hr2⟩ := hr
      exact W.aret B.exec B.bytes (B.returns.trans hr1) hr2 (Or.inr ⟨a, rfl⟩) (fun t ht hW => ⟨_, h', rfl, hq, by rw [ht]; exact hR'⟩) hL' hd
    | float v => exact hr.elim
    | double v => exact hr.elim
    | retAddr v => exact hr.elim
theorem c_back {X : VX} (C : Cx G i X) (E : Ends G i X Q) {H : Heap} {locs : List Loc} {cells slots : Nat} {ls : Array Slot} (hL : ∀ q ∈ locs, g_0 G ≤ q.base) (hl : lv_has ls (m_L i) lv) (h1 : cells + c ≤ x_ce X) (h2 : slots + s ≤ x_se X)
    {c1 c2 s1 s2 : Nat} (hc : c1 + c2 ≤ c) (hs : s1 + s2 ≤ s) {st0 rest : List Value} {as : Array Value}
    (hr : va_Run X.1 (g_l G) X.2.1 X.2.2.1 X.2.2.2.1 X.2.2.2.2.1 X.2.2.2.2.2.1 X.2.2.2.2.2.2.1 X.2.2.2.2.2.2.2.1 X.2.2.2.2.2.2.2.2.1 H locs cells slots c1 s1 (F0 (x_m X) pc ls st0) rest (q_r G (fun r h' => V G i (pc + 3) lv (r.toList ++ rest) h' c2 s2 Q) as) (fun q => g_0 G ≤ q)) :
    XW G X H locs cells slots (F0 (x_m X) pc ls st0) := by
  intro T hT X0
  obtain ⟨v, st₀, t, T', L, h0, X', hL', e1, e2, ⟨r, h', hv, hV, hR'⟩, go⟩ := hr T hT X0
  cases hv
  obtain ⟨t2, a1, b1⟩ := hV X C E T'.heap (locs ++ L) (cells + c1) (slots + s1) ls (by rw [e1]; exact hR') (fun q hq => by
    rcases List.mem_append.mp hq with z | z
    · exact hL q z
    · exact hL' q z) hl (by omega) (by omega) T' rfl X'
  exact ⟨t2, go t2 a1, b1⟩
theorem p_rs {X : VX} {H : Heap} {As : List Value} (C : Cx G i X) (hR : Rep G h H) : PreS X.2.2.2.1 H (p_r G As h) As :=
  ⟨fun a U g mk q => ⟨q.1, q.2.1, q.2.2.same rfl⟩, fun U hU hW => ⟨rfl, by rw [hU]; exact hR, C.2.2.2.2.2.2.2.1.moved hW⟩⟩
theorem p_rv {X : VX} {H : Heap} {As : List Value} {b : Nat} {r : vw_C} (C : Cx G i X) (hR : Rep G h H) (hb : g_0 G ≤ b ∧ b < h.2.2) (hk : vwCl[(h.1 b).1]? = some r) : PreV X.2.2.2.1 H r.1 b (p_r G (.ref b :: As) h) As := by
  obtain ⟨cell, q1, q2, q3, q4⟩ := (hR.2.2.2 b hb.1 hb.2).1 _ hk
  exact ⟨fun a U g mk q => ⟨q.1, q.2.1, q.2.2.same rfl⟩, ⟨cell, q1, by rw [q3]; rfl, by rw [q2]; exact (C.2.2.2.2.2.2.2.1.1 _ _ hk).2.1⟩, fun U hU hW => ⟨rfl, by rw [hU]; exact hR, C.2.2.2.2.2.2.2.1.moved hW⟩⟩
/-- entry idx of the pool of 'own' is method j -/
def n_ok (own : String) (idx : Nat) (j : MM) : Prop := Cond.methodLink own idx (m_Y j) ∈ tb ∨ ∃ host, (own, idx, m_Y j, host) ∈ n_M
theorem V.callS {j : MM} {n idx : Nat} (c1 c2 s1 s2 : Nat) (As : List Value) {rest st0 : List Value} (hd : decode (m_C i) pc = .ok (.invokestatic idx, 3)) (hj : m_ok j n) (hk : n_ok (m_Y i).cls idx j) (hsm : Cond.static (m_Y j) ∈ tb) (hD : m_D j < m_D i) (hW : 19 + m_L j + m_W j ≤ m_W i) (hst : st0 = As.reverse ++ rest) (hn : As.length = n) (hl : (lg_sl As).length ≤ m_L j) (hw : (rest.map fun v => v.category).sum ≤ 8) (hc : c1 + c2 ≤ c) (hs : s1 + s2 ≤ s)
    (kk : V G j 0 (lv_args 0 As) [] h c1 s1 (fun r h' => V G i (pc + 3) lv (r.toList ++ rest) h' c2 s2 Q)) : V G i pc lv st0 h c s Q := by
  intro X C E H locs cells slots ls hR hL hlv h1 h2
  subst hst
  obtain ⟨hx, hb, -, -, hml, hown, hts, hK, -, hfr, hlo, hrc, hrs⟩ := id C
  have hM := Met.ofV hj hl kk
  have hRm : m_D j + 1 ≤ X.2.2.1.frames ∧ 8 + (m_L j + 11) + m_W j ≤ X.2.2.1.locals := ⟨by omega, by omega⟩
  rcases hk with e | ⟨host, e⟩
  · exact c_back C E hL hlv h1 h2 hc hs (va_runS (nL := m_L i) ⟨hx, hb, hml, hown, hts⟩ hM ⟨callB_of n hts hj.good rfl rfl rfl (hts _ hj.2.1) (hts _ e) hj.2.2.2.1 hRm, hts _ hsm⟩ (p_rs C hR) rfl hn hlv.1 rfl (lv_room hw) hd ⟨by omega, by omega⟩)
  · exact c_back C E hL hlv h1 h2 hc hs (va_runSN (nL := m_L i) ⟨hx, hb, hml, hown, hts⟩ hM ⟨va_cnB n hts hj.good rfl rfl rfl (hK.2.2.2.1 _ e) (hts _ hj.2.1) hj.2.2.2.1 hRm, hts _ hsm, trivial⟩ (p_rs C hR) rfl hn hlv.1 rfl (lv_room hw) hd ⟨by omega, by omega⟩)
theorem V.callV {j : MM} {n idx b : Nat} {r : vw_C} (c1 c2 s1 s2 : Nat) (As : List Value) {rest st0 : List Value} (hd : decode (m_C i) pc = .ok (.invokevirtual idx, 3)) (hj : m_ok j n) (hk : n_ok (m_Y i).cls idx j) (hb : g_0 G ≤ b ∧ b < h.2.2) (hkd : vwCl[(h.1 b).1]? = some r) (him : Cond.instanceMethod (m_Y j) ∈ tb) (hse : Cond.selects r.1 (m_Y j) (m_Y j) ∈ tb) (hD : m_D j < m_D i) (hW : 19 + m_L j + m_W j ≤ m_W i) (hst : st0 = As.reverse ++ .ref b :: rest) (hn : As.length = n) (hl : (lg_sl (.ref b :: As)).length ≤ m_L j) (hw : (rest.map fun v => v.category).sum ≤ 8) (hc : c1 + c2 ≤ c) (hs : s1 + s2 ≤ s)
    (kk : V G j 0 (lv_args 0 (.ref b :: As)) [] h c1 s1 (fun r h' => V G i (pc + 3) lv (r.toList ++ rest) h' c2 s2 Q)) : V G i pc lv st0 h c s Q := by
  intro X C E H locs cells slots ls hR hL hlv h1 h2
  subst hst
  obtain ⟨hx, hbc, -, -, hml, hown, hts, hK, -, hfr, hlo, hrc, hrs⟩ := id C
  have hM := Met.ofV hj hl kk
  have hRm : m_D j + 1 ≤ X.2.2.1.frames ∧ 8 + (m_L j + 11) + m_W j ≤ X.2.2.1.locals := ⟨by omega, by omega⟩
  rcases hk with e | ⟨host, e⟩
  · exact c_back C E hL hlv h1 h2 hc hs (va_runV (nL := m_L i) ⟨hx, hbc, hml, hown, hts⟩ hM ⟨callB_of n hts hj.good rfl rfl rfl (hts _ hj.2.1) (hts _ e) hj.2.2.2.1 hRm, hts _ him, hts _ hse⟩ (p_rv C hR hb hkd) rfl hn hlv.1 rfl (lv_room hw) hd ⟨by omega, by omega⟩)
  · exact c_back C E hL hlv h1 h2 hc hs (va_runVN (nL := m_L i) ⟨hx, hbc, hml, hown, hts⟩ hM ⟨va_cnB n hts hj.good rfl rfl rfl (hK.2.2.2.1 _ e) (hts _ hj.2.1) hj.2.2.2.1 hRm, hts _ him, hts _ hse⟩ (p_rv C hR hb hkd) rfl hn hlv.1 rfl (lv_room hw) hd ⟨by omega, by omega⟩)
/-- an inherited method: the reference names x, which is j's -/
theorem V.callU {j : MM} {n idx b : Nat} {r : vw_C} (c1 c2 s1 s2 : Nat) (As : List Value) {rest st0 : List Value} {x : MethodName} (hd : decode (m_C i) pc = .ok (.invokevirtual idx, 3)) (hj : m_ok j n) (hw1 : Cond.methodLink (m_Y i).cls idx x ∈ tb) (hw2 : Cond.sameMethod x.cls (m_Y j).cls x.name x.desc ∈ tb) (hxy : m_Y j = ⟨(m_Y j).cls, x.name, x.desc⟩) (hb : g_0 G ≤ b ∧ b < h.2.2) (hkd : vwCl[(h.1 b).1]? = some r) (him : Cond.instanceMethod (m_Y j) ∈ tb) (hse : Cond.selects r.1 x (m_Y j) ∈ tb) (hD : m_D j < m_D i) (hW : 19 + m_L j + m_W j ≤ m_W i) (hst : st0 = As.reverse ++ .ref b :: rest) (hn : As.length = n) (hl : (lg_sl (.ref b :: As)).length ≤ m_L j) (hw : (rest.map fun v => v.category).sum ≤ 8) (hc : c1 + c2 ≤ c) (hs : s1 + s2 ≤ s)
    (kk : V G j 0 (lv_args 0 (.ref b :: As)) [] h c1 s1 (fun r h' => V G i (pc + 3) lv (r.toList ++ rest) h' c2 s2 Q)) : V G i pc lv st0 h c s Q := by
  intro X C E H locs cells slots ls hR hL hlv h1 h2
  subst hst
  obtain ⟨hx, hbc, -, -, hml, hown, hts, hK, -, hfr, hlo, hrc, hrs⟩ := id C
  have hM := Met.ofV hj hl kk
  have hRm : m_D j + 1 ≤ X.2.2.1.frames ∧ 8 + (m_L j + 11) + m_W j ≤ X.2.2.1.locals := ⟨by omega, by omega⟩
  have hdx : (parseMethodDescriptor x.desc).map (fun d => d.parameters.length) = some n := by
    have h9 := hj.2.2.2.1.2.2
    rw [hxy] at h9
    exact h9
  have hGo : GoodIn tb (va_wsU (m_Y i).cls idx r.1 (m_Y j).cls x (m_Y j) (Cond.code (m_Y j) (m_C j) (m_L j) (m_R j) :: tb)) := by
    intro w hw
    unfold va_wsU at hw
    rcases List.mem_append.mp hw with e | e
    · simp only [List.mem_cons, List.not_mem_nil, or_false] at e
      rcases e with e | e | e | e | e
      · subst e; exact tb_good _ hw1
      · subst e; exact tb_good _ hw2
      · subst e; exact tb_good _ hse
      · subst e; exact tb_good _ him
      · subst e; exact tb_good _ hj.2.1
    · exact hj.good _ e
  exact c_back C E hL hlv h1 h2 hc hs (va_runU (nL := m_L i) ⟨hx, hbc, hml, hown, hts⟩ hM (va_cwU n hts hGo rfl rfl rfl hxy ⟨hj.2.2.2.1.1, hj.2.2.2.1.2.1, hdx⟩ hRm) (p_rv C hR hb hkd) rfl hn hlv.1 rfl (lv_room hw) hd ⟨by omega, by omega⟩)
theorem V.callI {j : MM} {n idx b : Nat} (c1 c2 s1 s2 : Nat) (As : List Value) {rest st0 : List Value} (hd : decode (m_C i) pc = .ok (.invokespecial idx, 3)) (hj : m_ok j n) (hk : n_ok (m_Y i).cls idx j) (hin : (m_Y j).name = "<init>") (hrn : m_R j = none) (him : Cond.instanceMethod (m_Y j) ∈ tb) (hD : m_D j < m_D i) (hW : 19 + m_L j + m_W j ≤ m_W i) (hst : st0 = As.reverse ++ .ref b :: rest) (hn : As.length = n) (hl : (lg_sl (.ref b :: As)).length ≤ m_L j) (hw : (rest.map fun v => v.category).sum ≤ 8) (hc : c1 + c2 ≤ c) (hs : s1 + s2 ≤ s)
    (kk : V G j 0 (lv_args 0 (.ref b :: As)) [] h c1 s1 (fun r h' => V G i (pc + 3) lv (r.toList ++ rest) h' c2 s2 Q)) : V G i pc lv st0 h c s Q := by
  intro X C E H locs cells slots ls hR hL hlv h1 h2
  subst hst
  obtain ⟨hx, hbc, -, -, hml, hown, hts, hK, -, hfr, hlo, hrc, hrs⟩ := id C
  have hM := Met.ofV hj hl kk
  have hg := hj.good
  have hRm : m_D j + 1 ≤ X.2.2.1.frames ∧ 8 + (m_L j + 11) + m_W j ≤ X.2.2.1.locals := ⟨by omega, by omega⟩
  rw [hrn] at hM hg
  rcases hk with e | ⟨host, e⟩
  · exact c_back C E hL hlv h1 h2 hc hs (va_runI (nL := m_L i) ⟨hx, hbc, hml, hown, hts⟩ hM ⟨callB_of n hts hg rfl rfl rfl (hts _ hj.2.1) (hts _ e) hj.2.2.2.1 hRm, hin, hts _ him⟩ (p_rs C hR) rfl hn hlv.1 rfl (lv_room hw) hd ⟨by omega, by omega⟩)
  · exact c_back C E hL hlv h1 h2 hc hs (va_runIN (nL := m_L i) ⟨hx, hbc, hml, hown, hts⟩ hM ⟨va_cnB n hts hg rfl rfl rfl (hK.2.2.2.1 _ e) (hts _ hj.2.1) hj.2.2.2.1 hRm, hin, hts _ him⟩ (p_rs C hR) rfl hn hlv.1 rfl (lv_room hw) hd ⟨by omega, by omega⟩)
theorem V.mmin {idx : Nat} {x y : Int32} (hd : decode (m_C i) pc = .ok (.invokestatic idx, 3)) (hw1 : Cond.methodLink (m_Y i).cls idx Lib.Math.min.name ∈ tb) (hw2 : Cond.static Lib.Math.min.name ∈ tb) (hw3 : Cond.initialized "java/lang/Math" ∈ tb) (hw4 : Cond.code Lib.Math.min.name Lib.Math.min.code 2 (some .int) ∈ tb) (hD : 1 ≤ m_D i) (hW : 45 ≤ m_W i) (hs : (st.map fun v => v.category).sum ≤ 8)
    (kk : V G i (pc + 3) lv (.int (if y < x then y else x) :: st) h c s Q) : V G i pc lv (.int y :: .int x :: st) h c s Q := by
  intro X C E H locs cells slots ls hR hL hl h1 h2
  obtain ⟨hx, hb, -, -, hml, hown, hts, hK, -, hfr, hlo, hrc, hrs⟩ := id C
  exact va_mmin hx hb (hml.trans hl.1.symm) hown (hts _ hw1) (hts _ hw2) (hts _ hw3) (hts _ hw4) (by omega) (by omega) (by omega) (by omega) hd (kk X C E H locs cells slots ls hR hL hl h1 h2)
theorem V.acopy {a0 a idx sp dp n : Nat} {ty : FieldType} (hd : decode (m_C i) pc = .ok (.invokestatic idx, 3)) (hw1 : Cond.methodLink (m_Y i).cls idx arraycopyName ∈ tb) (hw2 : Cond.native arraycopyName ∈ tb) (hw3 : Cond.static arraycopyName ∈ tb) (hw4 : Cond.initialized "java/lang/System" ∈ tb) (hD : 1 ≤ m_D i) (hW : 45 ≤ m_W i) (hs : (st.map fun v => v.category).sum ≤ 8)
    (ha0 : g_0 G ≤ a0 ∧ a0 < h.2.2) (ha : g_0 G ≤ a ∧ a < h.2.2) (hk0 : k_ty (h.1 a0).1 = some ty) (hk1 : k_ty (h.1 a).1 = some ty) (hprim : refKind ty = false) (hz0 : (h.1 a0).2 < 2 ^ 31) (hz1 : (h.1 a).2 < 2 ^ 31) (h4 : sp + n ≤ (h.1 a0).2) (h5 : dp + n ≤ (h.1 a).2) (hfit : ∀ j, j < n → ∃ z : Int32, h.2.1 a0 (sp + j) = .int z ∧ fits ty (.int z) = true)
    (kk : V G i (pc + 3) lv st (h_cpy h a0 sp a dp n) c s Q) : V G i pc lv (.int (nI n) :: .int (nI dp) :: .ref a :: .int (nI sp) :: .ref a0 :: st) h c s Q := by
  intro X C E H locs cells slots ls hR hL hl h1 h2
  obtain ⟨hx, hb, -, -, hml, hown, hts, hK, -, hfr, hlo, hrc, hrs⟩ := id C
  have hc0 := (hR.2.2.2 a0 ha0.1 ha0.2).2 _ hk0
  have hc1 := (hR.2.2.2 a ha.1 ha.2).2 _ hk1
  obtain ⟨-, k0, hkk0, cm0, hkd0⟩ := (hK.2.1 _ _ hk0).1 (h.1 a0).2 (h.2.1 a0)
  obtain ⟨-, k1, hkk1, cm1, hkd1⟩ := (hK.2.1 _ _ hk1).1 (h.1 a).2 (h.2.1 a)
  have e1 := nI_clamp (n := sp) (by omega)
  have e2 := nI_clamp (n := dp) (by omega)
  have e3 := nI_clamp (n := n) (by omega)
  have t1 := nI_toInt (n := sp) (by omega)
  have t2 := nI_toInt (n := dp) (by omega)
  have t3 := nI_toInt (n := n) (by omega)
  intro T hT X0
  obtain ⟨vm', X', step⟩ := X0.arraycopy hx hown (hts _ hw1) (hts _ hw2) (hts _ hw3) (hts _ hw4) (src := a0) (dst := a) (srcPos := nI sp) (destPos := nI dp) (n := nI n) (by rw [hT]; exact hc0) (by rw [hT]; exact hc1)
    (fun _ h => by cases h) (fun _ h => by cases h) (fun h => by cases h) (fun h => by cases h) hkk0 hkk1 hkd0 hkd1 (by simp [hprim]) (nI_pos (by omega)) (nI_pos (by omega)) (nI_pos (by omega))
    (by rw [t1, t3, arrV_size]; omega) (by rw [t2, t3, arrV_size]; omega)
    (fun vm₁ _ j hj => by
      rw [e3] at hj
      obtain ⟨z, hz, hf⟩ := hfit j hj
      have e : (arrV (g_dA G (h.1 a0).1) (h.1 a0).2 (h.2.1 a0)).slots.getD ((nI sp).toNatClampNeg + j) .null = .int z := by
        rw [e1, Array.getD_eq_getD_getElem?, arrV_read _ _ (by omega), hz]
        rfl
      rw [e]
      exact ⟨hf, trivial⟩)
    (g := F0 (x_m X) pc ls (.int (nI n) :: .int (nI dp) :: .ref a :: .int (nI sp) :: .ref a0 :: st)) rfl (by rw [hml]; exact hl.1) (rest := st) rfl (by rw [hb]; exact hd) (by omega) (by show 2 * 0 + _ + (nativeFrameWords "java/lang/System" "arraycopy" 5 + 11) ≤ _; have h9 : nativeFrameWords "java/lang/System" "arraycopy" 5 ≤ 20 := (by decide); omega)
  have ec : copied (arrV (g_dA G (h.1 a0).1) (h.1 a0).2 (h.2.1 a0)) (arrV (g_dA G (h.1 a).1) (h.1 a).2 (h.2.1 a)) (nI sp) (nI dp) (nI n) = arrV (g_dA G (h.1 a).1) (h.1 a).2 ((h_cpy h a0 sp a dp n).2.1 a) := by
    have h9 := va_copied (fun z : Value => z) (g_dA G (h.1 a0).1) (g_dA G (h.1 a).1) (n0 := (h.1 a0).2) (n1 := (h.1 a).2) (sp := sp) (dp := dp) (n := n) (h.2.1 a0) (h.2.1 a) h4
    have h8 : copied (arrV (g_dA G (h.1 a0).1) (h.1 a0).2 (h.2.1 a0)) (arrV (g_dA G (h.1 a).1) (h.1 a).2 (h.2.1 a)) (nI sp) (nI dp) (nI n) = (arrV (g_dA G (h.1 a).1) (h.1 a).2 (h.2.1 a)).storeRun (nI dp).toNatClampNeg ((arrV (g_dA G (h.1 a0).1) (h.1 a0).2 (h.2.1 a0)).stretch (nI sp).toNatClampNeg (nI n).toNatClampNeg) := rfl
    rw [h8, e1, e2, e3, h9]
    congr 1
    funext j
    show (if dp ≤ j ∧ j < dp + n then _ else _) = if a = a ∧ dp ≤ j ∧ j < dp + n then _ else _
    simp
  rw [ec] at X' step
  have hlt : a < H.size := (Array.getElem?_eq_some_iff.mp hc1).1
  have oq : ∀ q : Nat, q ≠ a → (H.setIfInBounds a (arrV (g_dA G (h.1 a).1) (h.1 a).2 ((h_cpy h a0 sp a dp n).2.1 a)))[q]? = H[q]? := fun q hq => by simp [Array.getElem?_setIfInBounds, Ne.symm hq]
  have hRn : Rep G (h_cpy h a0 sp a dp n) (H.setIfInBounds a (arrV (g_dA G (h.1 a).1) (h.1 a).2 ((h_cpy h a0 sp a dp n).2.1 a))) := by
    refine hR.upd (a := a) rfl rfl (fun b hb => ?_) (by simp) oq ha.1 (fun _ => ⟨fun r hr => ?_, fun ty' hty' => ?_⟩)
    · funext j
      show (if b = a ∧ _ then _ else _) = _
      simp [hb]
    · exact absurd hk1 (by rw [show k_ty (h.1 a).1 = none from k_dis _ _ hr]; exact fun h => by cases h)
    · simp [Array.getElem?_setIfInBounds, hlt]
      rfl
  obtain ⟨t, a1, b1⟩ := kk X C E _ _ cells slots ls hRn (fun q hq => by
      rcases List.mem_append.mp hq with z | z
      · exact hL q z
      · obtain ⟨w, -, hw⟩ := List.mem_map.mp z
        rw [← hw]
        exact ha.1) hl h1 h2 _ (by show (T.heap.setIfInBounds a _) = _; rw [hT]) X'
  exact ⟨t, step t a1, b1⟩
end VCL
