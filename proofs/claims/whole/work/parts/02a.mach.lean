/-! THE MACHINE IN SHORT: heaps as functions, and one judgement V over them. V G i pc lv st h c s Q: method i, at pc, with the locals lv, the operand stack st and the heap h, comes to a return of r with a heap h' with Q r h'; it makes at most c cells of s slots. -/
/-- a heap: of an address its kind and length; what it holds; the next free address -/
abbrev HH : Type := (Nat → Nat × Nat) × (Nat → Nat → Value) × Nat
def h_put (h : HH) (a k : Nat) (v : Value) : HH := (h.1, fun b j => if b = a ∧ j = k then v else h.2.1 b j, h.2.2)
def h_new (h : HH) (kd n : Nat) (f : Nat → Value) : HH := (fun b => if b = h.2.2 then (kd, n) else h.1 b, fun b j => if b = h.2.2 then f j else h.2.1 b j, h.2.2 + 1)
def h_cpy (h : HH) (a sp d dp n : Nat) : HH := (h.1, fun b j => if b = d ∧ dp ≤ j ∧ j < dp + n then h.2.1 a (sp + (j - dp)) else h.2.1 b j, h.2.2)
/-- what is fixed for a run of the law: launch; class ids, slots, array class ids; the heap at its start; the script -/
abbrev GG : Type := Launch × (Nat → ClassId) × (Nat → Nat → Nat) × (Nat → ClassId) × Heap × Nat × Nat × (Nat → Int32)
abbrev g_l (G : GG) : Launch := G.1
abbrev g_dC (G : GG) : Nat → ClassId := G.2.1
abbrev g_dI (G : GG) : Nat → Nat → Nat := G.2.2.1
abbrev g_dA (G : GG) : Nat → ClassId := G.2.2.2.1
abbrev g_H (G : GG) : Heap := G.2.2.2.2.1
abbrev g_b (G : GG) : Nat := G.2.2.2.2.2.1
abbrev g_L (G : GG) : Nat := G.2.2.2.2.2.2.1
abbrev g_xs (G : GG) : Nat → Int32 := G.2.2.2.2.2.2.2
/-- the first address of the run's own -/
abbrev g_0 (G : GG) : Nat := (g_H G).size
/-- a cell as the heap has it -/
def c_ok (G : GG) (h : HH) (H : Heap) (a : Nat) : Prop :=
  (∀ r : vw_C, vwCl[(h.1 a).1]? = some r → t_OB a (g_dC G (h.1 a).1) r.2.2 (g_dI G (h.1 a).1) H (h.2.1 a)) ∧
  ∀ ty : FieldType, k_ty (h.1 a).1 = some ty → H[a]? = some (arrV (g_dA G (h.1 a).1) (h.1 a).2 (h.2.1 a))
def Rep (G : GG) (h : HH) (H : Heap) : Prop := H.size = h.2.2 ∧ g_0 G ≤ h.2.2 ∧ (∀ q : Nat, q < g_0 G → H[q]? = (g_H G)[q]?) ∧ ∀ a : Nat, g_0 G ≤ a → a < h.2.2 → c_ok G h H a
/-- what the tables say at a method's start -/
def KK (G : GG) (U : State) : Prop :=
  (∀ (k : Nat) (q : vw_C), vwCl[k]? = some q → u_Kn U q.1 q.2.1 q.2.2 (g_dC G k) (g_dI G k)) ∧
  (∀ (k : Nat) (ty : FieldType), k_ty k = some ty → ArrOfT U (g_dA G k) ty ∧ U.vm.findClass ("[" ++ ty.toString) = some (g_dA G k)) ∧
  (∀ q ∈ n_F, va_Nw (.fieldLinkNest q.1 q.2.1 q.2.2.1 q.2.2.2.1 q.2.2.2.2.1 q.2.2.2.2.2) U) ∧
  (∀ q ∈ n_M, va_Nw (.methodLinkNest q.1 q.2.1 q.2.2.1 q.2.2.2) U) ∧
  (∀ q ∈ n_C, va_Nw (.castable q.1 q.2) U) ∧ (∀ q ∈ n_N, va_Nc q.1 q.2 U) ∧
  va_X (g_b G) (g_L G) (g_xs G) U (g_H G)
theorem KK.moved {G : GG} {s U : State} (hW : s.WarmedH U.vm) (h : KK G s) : KK G U := by
  obtain ⟨h1, h2, h3, h4, h5, h6, h7⟩ := h
  refine ⟨fun k q hq => u_Kn_moved hW.alike (h1 k q hq), fun k ty hk => ⟨arrOfT_moved hW.alike (h2 k ty hk).1, ?_⟩, fun q hq => va_Nw.warmF hW (h3 q hq), fun q hq => va_Nw.warmM hW (h4 q hq), fun q hq => va_Nw.warmC hW (h5 q hq), fun q hq => va_Nc.moved hW.alike (h6 q hq), va_X.moved hW.alike h7⟩
  rw [hW.alike.findClass]
  exact (h2 k ty hk).2
theorem KK.same {G : GG} {s U : State} (hv : s.vm = U.vm) (h : KK G s) : KK G U := by
  obtain ⟨h1, h2, h3, h4, h5, h6, h7⟩ := h
  have ha : s.vm.Alike U.vm := by rw [← hv]; exact Vm.Alike.refl _
  refine ⟨fun k q hq => u_Kn_moved ha (h1 k q hq), fun k ty hk => ⟨arrOfT_moved ha (h2 k ty hk).1, ?_⟩, fun q hq => va_Nw.same rfl hv (h3 q hq), fun q hq => va_Nw.same rfl hv (h4 q hq), fun q hq => va_Nw.same rfl hv (h5 q hq), fun q hq => va_Nc.moved ha (h6 q hq), va_X.moved ha h7⟩
  rw [← hv]
  exact (h2 k ty hk).2
/-- a walk's fixed things: program, env, room, start state, method, arguments, frames below, method, code, goal, the cells and slots at its end -/
abbrev VX : Type := Program × Env × Room × State × MethodId × Array Value × List Frame × Method × Code × (State → Prop) × Nat × Nat
abbrev XW (G : GG) (X : VX) (H : Heap) (locs : List Loc) (cells slots : Nat) (g : JFrame) : Prop :=
  W X.1 (g_l G) X.2.1 X.2.2.1 X.2.2.2.1 X.2.2.2.2.1 X.2.2.2.2.2.1 X.2.2.2.2.2.2.1 X.2.2.2.2.2.2.2.1 X.2.2.2.2.2.2.2.2.1 H locs cells slots X.2.2.2.2.2.2.2.2.2.1 g
abbrev x_ce (X : VX) : Nat := X.2.2.2.2.2.2.2.2.2.2.1
abbrev x_se (X : VX) : Nat := X.2.2.2.2.2.2.2.2.2.2.2
abbrev x_m (X : VX) : MethodId := X.2.2.2.2.1
/-- what a walk of method i stands on -/
def Cx (G : GG) (i : MM) (X : VX) : Prop :=
  X.1.tables.exec = Jvm.exec ∧ X.2.2.2.2.2.2.2.2.1.code = m_C i ∧ X.2.2.2.2.2.2.2.1.sig.returnType = m_R i ∧ X.2.2.2.2.2.2.2.1.locks = false ∧ X.2.2.2.2.2.2.2.2.1.maxLocals = m_L i ∧
  X.2.2.2.1.vm.findClass (m_Y i).cls = some (x_m X).cls ∧ (∀ w ∈ tb, w.before X.2.2.2.2.2.1 X.2.2.2.1 = true) ∧ KK G X.2.2.2.1 ∧ ((m_Y i).name = "<init>" → X.2.2.2.2.2.2.2.1.name = "<init>") ∧
  m_D i ≤ X.2.2.1.frames ∧ m_W i ≤ X.2.2.1.locals ∧ x_ce X ≤ X.2.2.1.cells ∧ x_se X ≤ X.2.2.1.slots
/-- a return of r at pc -/
def r_ok (i : MM) (pc : Nat) (r : Option Value) : Prop := match r with
  | none => decode (m_C i) pc = .ok (.return_, 1) ∧ m_R i = none
  | some (.int v) => decode (m_C i) pc = .ok (.ireturn, 1) ∧ ∃ ty, m_R i = some ty ∧ narrow ty (.int v) = .int v
  | some (.long _) => decode (m_C i) pc = .ok (.lreturn, 1) ∧ m_R i = some .long
  | some .null => decode (m_C i) pc = .ok (.areturn, 1) ∧ ∃ rt, m_R i = some rt ∧ ((∃ n, rt = .object n) ∨ ∃ t, rt = .array t)
  | some (.ref _) => decode (m_C i) pc = .ok (.areturn, 1) ∧ ∃ rt, m_R i = some rt ∧ ((∃ n, rt = .object n) ∨ ∃ t, rt = .array t)
  | _ => False
def Ends (G : GG) (i : MM) (X : VX) (Q : Option Value → HH → Prop) : Prop :=
  ∀ (pc : Nat) (ls : Array Slot) (H : Heap) (locs : List Loc) (r : Option Value) (h : HH), Q r h → Rep G h H → (∀ q ∈ locs, g_0 G ≤ q.base) → r_ok i pc r → XW G X H locs (x_ce X) (x_se X) (F0 (x_m X) pc ls r.toList)
def V (G : GG) (i : MM) (pc : Nat) (lv : List (Nat × Value)) (st : List Value) (h : HH) (c s : Nat) (Q : Option Value → HH → Prop) : Prop :=
  ∀ X : VX, Cx G i X → Ends G i X Q → ∀ (H : Heap) (locs : List Loc) (cells slots : Nat) (ls : Array Slot), Rep G h H → (∀ q ∈ locs, g_0 G ≤ q.base) → lv_has ls (m_L i) lv → cells + c ≤ x_ce X → slots + s ≤ x_se X →
    XW G X H locs cells slots (F0 (x_m X) pc ls st)
section VB
variable {G : GG} {i : MM} {pc : Nat} {lv : List (Nat × Value)} {st : List Value} {h : HH} {c s : Nat} {Q Q' : Option Value → HH → Prop}
theorem V.mono {c' s' : Nat} (kk : V G i pc lv st h c' s' Q) (hc : c' ≤ c) (hs : s' ≤ s) : V G i pc lv st h c s Q :=
  fun X C E H locs cells slots ls hR hL hl h1 h2 => kk X C E H locs cells slots ls hR hL hl (by omega) (by omega)
theorem V.weak (kk : V G i pc lv st h c s Q) (hq : ∀ r h', Q r h' → Q' r h') : V G i pc lv st h c s Q' :=
  fun X C E => kk X C (fun pc ls H locs r h' hr => E pc ls H locs r h' (hq r h' hr))
theorem V.eqh {h' : HH} (e : h = h') (kk : V G i pc lv st h' c s Q) : V G i pc lv st h c s Q := e ▸ kk
theorem V.sub {lv' : List (Nat × Value)} (ks : List Nat) (hl : lv_pick lv ks = lv') (kk : V G i pc lv' st h c s Q) : V G i pc lv st h c s Q :=
  fun X C E H locs cells slots ls hR hL hl' h1 h2 => kk X C E H locs cells slots ls hR hL (lv_sub hl' ks hl) h1 h2
/-- a local, by its number -/
def l_at (lv : List (Nat × Value)) (n : Nat) : Option Value := (lv.find? (fun q => q.1 == n)).map (·.2)
theorem l_get {ls : Array Slot} {nL n : Nat} {v : Value} (h : lv_has ls nL lv) (hv : l_at lv n = some v) : ls[n]? = some (.val v) := by
  unfold l_at at hv
  cases hf : lv.find? (fun q => q.1 == n) with
  | none => rw [hf] at hv; cases hv
  | some q =>
    rw [hf] at hv
    have h1 := List.mem_of_find?_eq_some hf
    have h2 := List.find?_some hf
    have e1 : q.1 = n := by simpa using h2
    have e2 : q.2 = v := by simpa using hv
    rw [← e1, ← e2]
    exact h.2.2 q h1
def l_set (lv : List (Nat × Value)) (n : Nat) (v : Value) : List (Nat × Value) := (n, v) :: lv.filter (fun q => !(q.1 == n) && !(q.1 + 1 == n && q.2.category == 2))
def l_set2 (lv : List (Nat × Value)) (n : Nat) (v : Value) : List (Nat × Value) := (n, v) :: lv.filter (fun q => !(q.1 == n) && (!(q.1 == n + 1) && !(q.1 + 1 == n && q.2.category == 2)))
end VB
