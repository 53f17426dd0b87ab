section VH
variable {G : GG} {i : MM} {pc : Nat} {lv : List (Nat × Value)} {st : List Value} {h : HH} {c s : Nat} {Q Q' : Option Value → HH → Prop}
/-- entry idx of the pool of 'own' is field k of an object of kind kd -/
def f_ok (own : String) (idx kd k : Nat) : Prop := ∃ (C : String) (T : u_T) (N : Nat) (ref : String), vwCl[kd]? = some (C, T, N) ∧ (∀ w ∈ u_ws C T N, w ∈ tb) ∧ k < N ∧
  (Cond.fieldLink own idx ref (T k).2.1 (T k).2.2.1 ∈ tb ∨ ∃ host, (own, idx, ref, (T k).2.1, (T k).2.2.1, host) ∈ n_F) ∧ (ref = (T k).1 ∨ Cond.sameField ref (T k).1 (T k).2.1 (T k).2.2.1 ∈ tb)
theorem V.getf {a idx k : Nat} {v : Value} (hd : decode (m_C i) pc = .ok (.getfield idx, 3)) (ha : g_0 G ≤ a ∧ a < h.2.2) (hf : f_ok (m_Y i).cls idx (h.1 a).1 k) (hv : h.2.1 a k = v) (kk : V G i (pc + 3) lv (v :: st) h c s Q) : V G i pc lv (.ref a :: st) h c s Q := by
  intro X C E H locs cells slots ls hR hL hl h1 h2
  obtain ⟨C', T, N, ref, e1, e2, e3, e4, e5⟩ := hf
  obtain ⟨hx, hb, -, -, -, hown, hts, hK, -⟩ := id C
  obtain ⟨cell, q1, q2, q3, q4⟩ := (hR.2.2.2 a ha.1 ha.2).1 _ e1
  obtain ⟨hS, hfc, kC, hkC, hkind⟩ := hK.1 _ _ e1
  obtain ⟨cf, kf, fi, f, hi, hsl⟩ := hS k e3
  have hst := (u_facts hfc hkC (u_lays hts e2 e3) hi).1
  have hi' : X.2.2.2.1.fieldFound? ref (T k).2.1 (T k).2.2.1 = some (cf, kf, fi, f) := by
    rcases e5 with e5 | e5
    · rw [e5]; exact hi
    · exact u_same (hts _ e5) _ hi
  have hslot : cell.slots[f.slot]? = some v := by rw [hsl, q4 k e3, hv]
  have hkn : cell.vm ≠ .unknown := by rw [q3]; exact fun h => by cases h
  have kk' := kk X C E H locs cells slots ls hR hL hl h1 h2
  rcases e4 with e4 | ⟨host, e4⟩
  · exact W.getf hx hb hown (hts _ e4) hi' hst q1 hkn hslot rfl rfl hd kk'
  · exact va_Wgetf hx hb hown (va_Nw.use rfl (hK.2.2.1 _ e4)) hi' hst q1 hkn hslot rfl rfl hd kk'
theorem Rep.upd {h h' : HH} {H H' : Heap} {a : Nat} (hR : Rep G h H) (hk : h'.1 = h.1) (hz : h'.2.2 = h.2.2) (ho : ∀ b, b ≠ a → h'.2.1 b = h.2.1 b) (z : H'.size = H.size) (o : ∀ q : Nat, q ≠ a → H'[q]? = H[q]?) (ha : g_0 G ≤ a) (hc : a < h.2.2 → c_ok G h' H' a) : Rep G h' H' := by
  obtain ⟨r1, r2, r3, r4⟩ := hR
  refine ⟨by rw [z, hz]; exact r1, by rw [hz]; exact r2, fun q hq => ?_, fun b hb1 hb2 => ?_⟩
  · rw [o q (by omega)]; exact r3 q hq
  · by_cases e : b = a
    · subst e; exact hc (by rw [← hz]; exact hb2)
    · obtain ⟨c1, c2⟩ := r4 b hb1 (by rw [← hz]; exact hb2)
      refine ⟨fun r hr => ?_, fun ty hty => ?_⟩
      · rw [hk] at hr ⊢
        rw [ho b e]
        exact (c1 r hr).kept (o b e)
      · rw [hk] at hty ⊢
        rw [ho b e, o b e]
        exact c2 ty hty
theorem h_put_self {h : HH} {a k : Nat} {v : Value} : (h_put h a k v).2.1 a = updV (h.2.1 a) k v := by
  funext j
  show (if a = a ∧ j = k then v else h.2.1 a j) = if j = k then v else h.2.1 a j
  by_cases e : j = k <;> simp [e]
theorem h_put_ne {h : HH} {a b k : Nat} {v : Value} (e : b ≠ a) : (h_put h a k v).2.1 b = h.2.1 b := by
  funext j
  show (if b = a ∧ j = k then v else h.2.1 b j) = _
  simp [e]
/-- what a class's table must say, for stores -/
def t_okk (T : u_T) (N : Nat) : Prop := (∃ ty0 : Nat → FieldType, ∀ k, k < N → parseFieldDescriptor (T k).2.2.1 = some (ty0 k)) ∧ ∀ a, a < N → ∀ b, b < N → a ≠ b → (T a).2.1 ≠ (T b).2.1
def p_ok (own : String) (idx kd k : Nat) (ty : FieldType) (ini : Prop) : Prop := ∃ (C : String) (T : u_T) (N : Nat) (ref : String), vwCl[kd]? = some (C, T, N) ∧ (∀ w ∈ u_ws C T N, w ∈ tb) ∧ k < N ∧
  (Cond.fieldLink own idx ref (T k).2.1 (T k).2.2.1 ∈ tb ∨ ((T k).2.2.2 = false ∧ ∃ host, (own, idx, ref, (T k).2.1, (T k).2.2.1, host) ∈ n_F)) ∧ (ref = (T k).1 ∨ Cond.sameField ref (T k).1 (T k).2.1 (T k).2.2.1 ∈ tb) ∧
  t_okk T N ∧ parseFieldDescriptor (T k).2.2.1 = some ty ∧ ((T k).2.2.2 = false ∨ ((T k).2.2.2 = true ∧ ini ∧ (T k).1 = own))
theorem V.putf {a idx k : Nat} {v : Value} {ty : FieldType} (hd : decode (m_C i) pc = .ok (.putfield idx, 3)) (ha : g_0 G ≤ a ∧ a < h.2.2) (hf : p_ok (m_Y i).cls idx (h.1 a).1 k ty ((m_Y i).name = "<init>")) (hn : narrow ty v = v) (hfit : fits ty v = true) (kk : V G i (pc + 3) lv st (h_put h a k v) c s Q) : V G i pc lv (v :: .ref a :: st) h c s Q := by
  intro X C E H locs cells slots ls hR hL hl h1 h2
  obtain ⟨C', T, N, ref, e1, e2, e3, e4, e5, ⟨⟨ty0, e6⟩, e7⟩, e8, e9⟩ := hf
  obtain ⟨hx, hb, -, -, -, hown, hts, hK, hini, -⟩ := id C
  obtain ⟨cell, q1, q2, q3, q4⟩ := (hR.2.2.2 a ha.1 ha.2).1 _ e1
  obtain ⟨hS, hfc, kC, hkC, hkind⟩ := hK.1 _ _ e1
  have hap : ∀ x y, x < N → y < N → x ≠ y → (g_dI G (h.1 a).1) x ≠ (g_dI G (h.1 a).1) y := by
    intro x y hx hy hne
    obtain ⟨_, _, _, fa, hia, ea⟩ := hS x hx
    obtain ⟨_, _, _, fb, hib, eb⟩ := hS y hy
    rw [← ea, ← eb]
    refine u_apart (u_lays hts e2 hx) (u_lays hts e2 hy) hia hib ?_
    rw [(State.fieldFound?_type hia (e6 x hx)).1, (State.fieldFound?_type hib (e6 y hy)).1]
    exact e7 x hx y hy hne
  obtain ⟨cf, kf, fi, f, hi, hsl⟩ := hS k e3
  have hst := (u_facts hfc hkC (u_lays hts e2 e3) hi).1
  have hi' : X.2.2.2.1.fieldFound? ref (T k).2.1 (T k).2.2.1 = some (cf, kf, fi, f) := by
    rcases e5 with e5 | e5
    · rw [e5]; exact hi
    · exact u_same (hts _ e5) _ hi
  have hlt : f.slot < cell.slots.size := by rw [hsl]; exact k2_hasslot (q4 k e3)
  have go : ∀ H' : Heap, H'[a]? = some (cell.setSlot f.slot v) → H'.size = H.size → (∀ q : Nat, q ≠ a → H'[q]? = H[q]?) → XW G X H' (locs ++ [⟨a, f.slot⟩]) cells slots (F0 (x_m X) (pc + 3) ls st) := by
    intro H' g1 g2 g3
    refine kk X C E H' (locs ++ [⟨a, f.slot⟩]) cells slots ls (hR.upd (h' := h_put h a k v) (a := a) rfl rfl (fun b hb => h_put_ne hb) g2 g3 ha.1 (fun _ => ?_)) (t_lc hL ha.1) hl h1 h2
    refine ⟨fun r hr => ?_, fun ty' hty' => ?_⟩
    · have hr' : r = (C', T, N) := Option.some.inj (hr.symm.trans e1)
      subst hr'
      rw [h_put_self]
      rw [hsl] at g1
      exact ⟨_, g1, q2, q3, t_set q4 hap e3 v⟩
    · exact absurd hty' (by rw [show k_ty ((h_put h a k v).1 a).1 = none from k_dis _ _ e1]; exact fun h => by cases h)
  rcases e9 with e9 | ⟨e9, e10, e11⟩
  · have hlay := hts _ (e2 _ (u_in_lay e3))
    unfold u_lay at hlay
    rw [if_neg (by rw [e9]; decide)] at hlay
    have h6 := u_store hfc hkC hkind hlay hi e8 hn hfit
    rcases e4 with e4 | ⟨-, host, e4⟩
    · exact W.putK hx hb (f := f) ⟨hown, hts _ e4, ⟨_, _, _, hi'⟩, hst⟩ (by rw [q2]; exact h6) q1 q3 hlt rfl rfl hd go
    · exact va_WputK hx hb (f := f) hown (va_Nw.use rfl (hK.2.2.1 _ e4)) hi' hst (by rw [q2]; exact h6) q1 q3 hlt rfl rfl hd go
  · have hlay := hts _ (e2 _ (u_in_lay e3))
    unfold u_lay at hlay
    rw [if_pos e9] at hlay
    have hcf : (x_m X).cls = cf := by
      obtain ⟨_, _, c', _, _, _, -, -, hf', -, -, -, hown2, -⟩ := Cond.laysFinal_spec hlay
      have e1 : c' = cf := by have := hi.symm.trans hf'; simp at this; exact this.1.symm
      rw [e11] at hown2
      rw [← e1]; exact Option.some.inj (hown.symm.trans hown2)
    have h6 := u_fits hfc hkC hkind (Or.inr hlay) hi e8 hn hfit
    rcases e4 with e4 | ⟨e4, -⟩
    · exact W.putFinK hx hb hown (hts _ e4) hi' hst hcf (hini e10) (by rw [q2]; exact h6) q1 q3 hlt rfl rfl hd go
    · rw [e9] at e4; cases e4
theorem Rep.push {h : HH} {H H' : Heap} {kd n : Nat} {f : Nat → Value} (hR : Rep G h H) (z : H'.size = H.size + 1) (o : ∀ q : Nat, q < H.size → H'[q]? = H[q]?) (hc : c_ok G (h_new h kd n f) H' h.2.2) : Rep G (h_new h kd n f) H' := by
  obtain ⟨r1, r2, r3, r4⟩ := hR
  refine ⟨by rw [z, r1]; rfl, Nat.le_succ_of_le r2, fun q hq => ?_, fun b hb1 hb2 => ?_⟩
  · rw [o q (by omega)]; exact r3 q hq
  · by_cases e : b = h.2.2
    · subst e; exact hc
    · have hb3 : b < h.2.2 := by have : b < h.2.2 + 1 := hb2; omega
      have k1 : (h_new h kd n f).1 b = h.1 b := by show (if b = h.2.2 then _ else _) = _; rw [if_neg e]
      have k2 : (h_new h kd n f).2.1 b = h.2.1 b := by
        funext j
        show (if b = h.2.2 then _ else _) = _
        rw [if_neg e]
      obtain ⟨c1, c2⟩ := r4 b hb1 hb3
      refine ⟨fun r hr => ?_, fun ty hty => ?_⟩
      · rw [k1] at hr ⊢
        rw [k2]
        exact (c1 r hr).kept (o b (by omega))
      · rw [k1] at hty ⊢
        rw [k2, o b (by omega)]
        exact c2 ty hty
theorem h_new_k {h : HH} {kd n : Nat} {f : Nat → Value} : (h_new h kd n f).1 h.2.2 = (kd, n) := by show (if h.2.2 = h.2.2 then _ else _) = _; rw [if_pos rfl]
theorem h_new_f {h : HH} {kd n : Nat} {f : Nat → Value} : (h_new h kd n f).2.1 h.2.2 = f := by
  funext j
  show (if h.2.2 = h.2.2 then _ else _) = _
  rw [if_pos rfl]
/-- entry idx of the pool of 'own' is the class of kind kd, of N fields, whose defaults are f -/
def w_ok (own : String) (idx kd N : Nat) (f : Nat → Value) : Prop := ∃ (C : String) (T : u_T) (ty : Nat → FieldType), vwCl[kd]? = some (C, T, N) ∧ (∀ w ∈ u_ws C T N, w ∈ tb) ∧ (∀ k, k < N → parseFieldDescriptor (T k).2.2.1 = some (ty k)) ∧
  Cond.classLink own idx C ∈ tb ∧ Cond.instantiable C N ∈ tb ∧ Cond.initialized C ∈ tb ∧ ∀ j, j < N → defaultValue (ty j) = f j
theorem V.new {idx kd N c2 s2 : Nat} {f : Nat → Value} (hd : decode (m_C i) pc = .ok (.new idx, 3)) (hf : w_ok (m_Y i).cls idx kd N f) (hc : c2 + 1 ≤ c) (hs : s2 + N ≤ s) (kk : V G i (pc + 3) lv (.ref h.2.2 :: st) (h_new h kd N f) c2 s2 Q) : V G i pc lv st h c s Q := by
  intro X C E H locs cells slots ls hR hL hl h1 h2
  obtain ⟨C', T, ty, e1, e2, e3, e4, e5, e6, e7⟩ := hf
  obtain ⟨hx, hb, -, -, -, hown, hts, hK, -, -, -, hrc, hrs⟩ := id C
  have hKn := hK.1 _ _ e1
  refine W.newcK hx hb hown (hts _ e4) (hts _ e5) (hts _ e6) rfl hd (by omega) (by omega) hKn.2.1 hR.1 fun H1 kC hkC g1 g2 g3 => ?_
  refine kk X C E H1 locs (cells + 1) (slots + N) ls (hR.push (by rw [g2, hR.1]) (fun q hq => g3 q (by rw [← hR.1]; exact hq)) ⟨fun r hr => ?_, fun ty' hty' => ?_⟩) hL hl (by omega) (by omega)
  · rw [h_new_k] at hr ⊢
    rw [h_new_f]
    have hr' : r = (C', T, N) := Option.some.inj (hr.symm.trans e1)
    subst hr'
    exact (u_born ty hts e2 hKn hkC g1 e3).to e7
  · rw [h_new_k] at hty'
    exact absurd hty' (by rw [show k_ty kd = none from k_dis _ _ e1]; exact fun h => by cases h)
theorem V.newarray {at_ : ArrayType} {kd c2 s2 : Nat} {n : Int32} {N : Nat} (hd : decode (m_C i) pc = .ok (.newarray at_, 2)) (hk : k_ty kd = some (newarray.typeOf at_)) (hw : Cond.arrayClass (newarray.typeOf at_) ∈ tb) (hn : n = nI N) (hN : N < 2 ^ 20) (hc : c2 + 1 ≤ c) (hs : s2 + N ≤ s)
    (kk : V G i (pc + 2) lv (.ref h.2.2 :: st) (h_new h kd N (fun _ => defaultValue (newarray.typeOf at_))) c2 s2 Q) : V G i pc lv (.int n :: st) h c s Q := by
  intro X C E H locs cells slots ls hR hL hl h1 h2
  obtain ⟨hx, hb, -, -, -, hown, hts, hK, -, -, -, hrc, hrs⟩ := id C
  subst hn
  have hbt : N * componentBytes (newarray.typeOf at_) ≤ 536870912 := by
    have : componentBytes (newarray.typeOf at_) ≤ 8 := by cases at_ <;> decide
    have h9 := Nat.mul_le_mul_left N this
    omega
  refine va_newaK hx hb (hts _ hw) rfl hd rfl (nI_pos (by omega)) (nI_clamp (by omega)) hbt (by omega) (by omega) hR.1 fun H1 cA g1 g2 g3 hA hNm => ?_
  refine kk X C E H1 locs (cells + 1) (slots + N) ls (hR.push (by rw [g2, hR.1]) (fun q hq => g3 q (by rw [← hR.1]; exact hq)) ⟨fun r hr => ?_, fun ty' hty' => ?_⟩) hL hl (by omega) (by omega)
  · rw [h_new_k] at hr
    exact absurd hk (by rw [show k_ty kd = none from k_dis _ _ hr]; exact fun h => by cases h)
  · rw [h_new_k] at hty' ⊢
    rw [h_new_f]
    have e1 : cA = g_dA G kd := Option.some.inj (hNm.symm.trans (hK.2.1 _ _ hk).2)
    rw [← e1]
    exact g1
theorem a_in {j : Int32} {n : Nat} (h : vp_in j n) : j.toNatClampNeg < n := Nat.not_le.mp fun q => h (Or.inr q)
theorem a_sz {cA : ClassId} {n : Nat} {f : Nat → Value} {j : Int32} (h : vp_in j n) : ¬ (j < 0 ∨ (arrV cA n f).slots.size ≤ j.toNatClampNeg) := by rw [arrV_size]; exact h
theorem V.alen {a : Nat} {ty : FieldType} {n : Int32} (hd : decode (m_C i) pc = .ok (.arraylength, 1)) (ha : g_0 G ≤ a ∧ a < h.2.2) (hk : k_ty (h.1 a).1 = some ty) (hn : nI (h.1 a).2 = n) (kk : V G i (pc + 1) lv (.int n :: st) h c s Q) : V G i pc lv (.ref a :: st) h c s Q := by
  intro X C E H locs cells slots ls hR hL hl h1 h2
  obtain ⟨hx, hb, -, -, -, -, -, hK, -⟩ := id C
  exact W.alen hx hb ((hR.2.2.2 a ha.1 ha.2).2 ty hk) ((hK.2.1 _ _ hk).1 _ _) (by rw [arrV_size]; exact hn) rfl rfl hd (kk X C E H locs cells slots ls hR hL hl h1 h2)
theorem V.iaload {a : Nat} {j : Int32} {v : Value} (hd : decode (m_C i) pc = .ok (.iaload, 1)) (ha : g_0 G ≤ a ∧ a < h.2.2) (hk : k_ty (h.1 a).1 = some .int) (hin : vp_in j (h.1 a).2) (hv : h.2.1 a j.toNatClampNeg = v) (kk : V G i (pc + 1) lv (v :: st) h c s Q) : V G i pc lv (.int j :: .ref a :: st) h c s Q := by
  intro X C E H locs cells slots ls hR hL hl h1 h2
  obtain ⟨hx, hb, -, -, -, -, -, hK, -⟩ := id C
  exact W.iald hx hb ((hR.2.2.2 a ha.1 ha.2).2 _ hk) ((hK.2.1 _ _ hk).1 _ _) (fun q => by cases q) (a_sz hin) (by rw [arrV_read _ _ (a_in hin), hv]) rfl rfl hd (kk X C E H locs cells slots ls hR hL hl h1 h2)
theorem V.caload {a : Nat} {j : Int32} {v : Value} (hd : decode (m_C i) pc = .ok (.caload, 1)) (ha : g_0 G ≤ a ∧ a < h.2.2) (hk : k_ty (h.1 a).1 = some .char) (hin : vp_in j (h.1 a).2) (hv : h.2.1 a j.toNatClampNeg = v) (kk : V G i (pc + 1) lv (v :: st) h c s Q) : V G i pc lv (.int j :: .ref a :: st) h c s Q := by
  intro X C E H locs cells slots ls hR hL hl h1 h2
  obtain ⟨hx, hb, -, -, -, -, -, hK, -⟩ := id C
  exact W.cald hx hb ((hR.2.2.2 a ha.1 ha.2).2 _ hk) ((hK.2.1 _ _ hk).1 _ _) (fun q => by cases q) (a_sz hin) (by rw [arrV_read _ _ (a_in hin), hv]) rfl rfl hd (kk X C E H locs cells slots ls hR hL hl h1 h2)
theorem V.baload {a : Nat} {j : Int32} {v : Value} (hd : decode (m_C i) pc = .ok (.baload, 1)) (ha : g_0 G ≤ a ∧ a < h.2.2) (hk : k_ty (h.1 a).1 = some .byte) (hin : vp_in j (h.1 a).2) (hv : h.2.1 a j.toNatClampNeg = v) (kk : V G i (pc + 1) lv (v :: st) h c s Q) : V G i pc lv (.int j :: .ref a :: st) h c s Q := by
  intro X C E H locs cells slots ls hR hL hl h1 h2
  obtain ⟨hx, hb, -, -, -, -, -, hK, -⟩ := id C
  exact W.bald hx hb ((hR.2.2.2 a ha.1 ha.2).2 _ hk) ((hK.2.1 _ _ hk).1 _ _) (fun q => by cases q) (a_sz hin) (by rw [arrV_read _ _ (a_in hin), hv]) rfl rfl hd (kk X C E H locs cells slots ls hR hL hl h1 h2)
theorem V.zaload {a : Nat} {j : Int32} {v : Value} (hd : decode (m_C i) pc = .ok (.baload, 1)) (ha : g_0 G ≤ a ∧ a < h.2.2) (hk : k_ty (h.1 a).1 = some .boolean) (hin : vp_in j (h.1 a).2) (hv : h.2.1 a j.toNatClampNeg = v) (kk : V G i (pc + 1) lv (v :: st) h c s Q) : V G i pc lv (.int j :: .ref a :: st) h c s Q := by
  intro X C E H locs cells slots ls hR hL hl h1 h2
  obtain ⟨hx, hb, -, -, -, -, -, hK, -⟩ := id C
  exact W.zald hx hb ((hR.2.2.2 a ha.1 ha.2).2 _ hk) ((hK.2.1 _ _ hk).1 _ _) (fun q => by cases q) (a_sz hin) (by rw [arrV_read _ _ (a_in hin), hv]) rfl rfl hd (kk X C E H locs cells slots ls hR hL hl h1 h2)
theorem V.saload {a : Nat} {j : Int32} {v : Value} (hd : decode (m_C i) pc = .ok (.saload, 1)) (ha : g_0 G ≤ a ∧ a < h.2.2) (hk : k_ty (h.1 a).1 = some .short) (hin : vp_in j (h.1 a).2) (hv : h.2.1 a j.toNatClampNeg = v) (kk : V G i (pc + 1) lv (v :: st) h c s Q) : V G i pc lv (.int j :: .ref a :: st) h c s Q := by
  intro X C E H locs cells slots ls hR hL hl h1 h2
  obtain ⟨hx, hb, -, -, -, -, -, hK, -⟩ := id C
  exact W.sald hx hb ((hR.2.2.2 a ha.1 ha.2).2 _ hk) ((hK.2.1 _ _ hk).1 _ _) (fun q => by cases q) (a_sz hin) (by rw [arrV_read _ _ (a_in hin), hv]) rfl rfl hd (kk X C E H locs cells slots ls hR hL hl h1 h2)
theorem V.laload {a : Nat} {j : Int32} {v : Value} (hd : decode (m_C i) pc = .ok (.laload, 1)) (ha : g_0 G ≤ a ∧ a < h.2.2) (hk : k_ty (h.1 a).1 = some .long) (hin : vp_in j (h.1 a).2) (hv : h.2.1 a j.toNatClampNeg = v) (kk : V G i (pc + 1) lv (v :: st) h c s Q) : V G i pc lv (.int j :: .ref a :: st) h c s Q := by
  intro X C E H locs cells slots ls hR hL hl h1 h2
  obtain ⟨hx, hb, -, -, -, -, -, hK, -⟩ := id C
  exact W.lald hx hb ((hR.2.2.2 a ha.1 ha.2).2 _ hk) ((hK.2.1 _ _ hk).1 _ _) (fun q => by cases q) (a_sz hin) (by rw [arrV_read _ _ (a_in hin), hv]) rfl rfl hd (kk X C E H locs cells slots ls hR hL hl h1 h2)
theorem V.iastore {a : Nat} {j : Int32} {x : Int32} {v : Value} (hd : decode (m_C i) pc = .ok (.iastore, 1)) (ha : g_0 G ≤ a ∧ a < h.2.2) (hk : k_ty (h.1 a).1 = some .int) (hin : vp_in j (h.1 a).2) (hv : .int x = v) (kk : V G i (pc + 1) lv st (h_put h a j.toNatClampNeg v) c s Q) : V G i pc lv (.int x :: .int j :: .ref a :: st) h c s Q := by
  intro X C E H locs cells slots ls hR hL hl h1 h2
  obtain ⟨hx, hb, -, -, -, -, -, hK, -⟩ := id C
  subst hv
  refine W.iast hx hb ((hR.2.2.2 a ha.1 ha.2).2 _ hk) ((hK.2.1 _ _ hk).1 _ _) (fun q => by cases q) (a_sz hin) rfl rfl hd fun H' g1 g2 g3 => ?_
  refine kk X C E H' _ cells slots ls (hR.upd (h' := h_put h a j.toNatClampNeg _) (a := a) rfl rfl (fun b hb => h_put_ne hb) g2 g3 ha.1 (fun _ => ⟨fun r hr => ?_, fun ty' hty' => ?_⟩)) (t_lc hL ha.1) hl h1 h2
  · exact absurd hk (by rw [show k_ty (h.1 a).1 = none from k_dis _ _ hr]; exact fun h => by cases h)
  · rw [h_put_self, g1, arrV_store]
    rfl
theorem V.castore {a : Nat} {j : Int32} {x : Int32} {v : Value} (hd : decode (m_C i) pc = .ok (.castore, 1)) (ha : g_0 G ≤ a ∧ a < h.2.2) (hk : k_ty (h.1 a).1 = some .char) (hin : vp_in j (h.1 a).2) (hv : narrow .char (.int x) = v) (kk : V G i (pc + 1) lv st (h_put h a j.toNatClampNeg v) c s Q) : V G i pc lv (.int x :: .int j :: .ref a :: st) h c s Q := by
  intro X C E H locs cells slots ls hR hL hl h1 h2
  obtain ⟨hx, hb, -, -, -, -, -, hK, -⟩ := id C
  subst hv
  refine W.cast hx hb ((hR.2.2.2 a ha.1 ha.2).2 _ hk) ((hK.2.1 _ _ hk).1 _ _) (fun q => by cases q) (a_sz hin) rfl rfl hd fun H' g1 g2 g3 => ?_
  refine kk X C E H' _ cells slots ls (hR.upd (h' := h_put h a j.toNatClampNeg _) (a := a) rfl rfl (fun b hb => h_put_ne hb) g2 g3 ha.1 (fun _ => ⟨fun r hr => ?_, fun ty' hty' => ?_⟩)) (t_lc hL ha.1) hl h1 h2
  · exact absurd hk (by rw [show k_ty (h.1 a).1 = none from k_dis _ _ hr]; exact fun h => by cases h)
  · rw [h_put_self, g1, arrV_store]
    rfl
theorem V.bastore {a : Nat} {j : Int32} {x : Int32} {v : Value} (hd : decode (m_C i) pc = .ok (.bastore, 1)) (ha : g_0 G ≤ a ∧ a < h.2.2) (hk : k_ty (h.1 a).1 = some .byte) (hin : vp_in j (h.1 a).2) (hv : narrow .byte (.int x) = v) (kk : V G i (pc + 1) lv st (h_put h a j.toNatClampNeg v) c s Q) : V G i pc lv (.int x :: .int j :: .ref a :: st) h c s Q := by
  intro X C E H locs cells slots ls hR hL hl h1 h2
  obtain ⟨hx, hb, -, -, -, -, -, hK, -⟩ := id C
  subst hv
  refine W.bast hx hb ((hR.2.2.2 a ha.1 ha.2).2 _ hk) ((hK.2.1 _ _ hk).1 _ _) (fun q => by cases q) (a_sz hin) rfl rfl hd fun H' g1 g2 g3 => ?_
  refine kk X C E H' _ cells slots ls (hR.upd (h' := h_put h a j.toNatClampNeg _) (a := a) rfl rfl (fun b hb => h_put_ne hb) g2 g3 ha.1 (fun _ => ⟨fun r hr => ?_, fun ty' hty' => ?_⟩)) (t_lc hL ha.1) hl h1 h2
  · exact absurd hk (by rw [show k_ty (h.1 a).1 = none from k_dis _ _ hr]; exact fun h => by cases h)
  · rw [h_put_self, g1, arrV_store]
    rfl
theorem V.zastore {a : Nat} {j : Int32} {x : Int32} {v : Value} (hd : decode (m_C i) pc = .ok (.bastore, 1)) (ha : g_0 G ≤ a ∧ a < h.2.2) (hk : k_ty (h.1 a).1 = some .boolean) (hin : vp_in j (h.1 a).2) (hv : narrow .boolean (.int x) = v) (kk : V G i (pc + 1) lv st (h_put h a j.toNatClampNeg v) c s Q) : V G i pc lv (.int x :: .int j :: .ref a :: st) h c s Q := by
  intro X C E H locs cells slots ls hR hL hl h1 h2
  obtain ⟨hx, hb, -, -, -, -, -, hK, -⟩ := id C
  subst hv
  refine W.zast hx hb ((hR.2.2.2 a ha.1 ha.2).2 _ hk) ((hK.2.1 _ _ hk).1 _ _) (fun q => by cases q) (a_sz hin) rfl rfl hd fun H' g1 g2 g3 => ?_
  refine kk X C E H' _ cells slots ls (hR.upd (h' := h_put h a j.toNatClampNeg _) (a := a) rfl rfl (fun b hb => h_put_ne hb) g2 g3 ha.1 (fun _ => ⟨fun r hr => ?_, fun ty' hty' => ?_⟩)) (t_lc hL ha.1) hl h1 h2
  · exact absurd hk (by rw [show k_ty (h.1 a).1 = none from k_dis _ _ hr]; exact fun h => by cases h)
  · rw [h_put_self, g1, arrV_store]
    rfl
theorem V.sastore {a : Nat} {j : Int32} {x : Int32} {v : Value} (hd : decode (m_C i) pc = .ok (.sastore, 1)) (ha : g_0 G ≤ a ∧ a < h.2.2) (hk : k_ty (h.1 a).1 = some .short) (hin : vp_in j (h.1 a).2) (hv : narrow .short (.int x) = v) (kk : V G i (pc + 1) lv st (h_put h a j.toNatClampNeg v) c s Q) : V G i pc lv (.int x :: .int j :: .ref a :: st) h c s Q := by
  intro X C E H locs cells slots ls hR hL hl h1 h2
  obtain ⟨hx, hb, -, -, -, -, -, hK, -⟩ := id C
  subst hv
  refine W.sast hx hb ((hR.2.2.2 a ha.1 ha.2).2 _ hk) ((hK.2.1 _ _ hk).1 _ _) (fun q => by cases q) (a_sz hin) rfl rfl hd fun H' g1 g2 g3 => ?_
  refine kk X C E H' _ cells slots ls (hR.upd (h' := h_put h a j.toNatClampNeg _) (a := a) rfl rfl (fun b hb => h_put_ne hb) g2 g3 ha.1 (fun _ => ⟨fun r hr => ?_, fun ty' hty' => ?_⟩)) (t_lc hL ha.1) hl h1 h2
  · exact absurd hk (by rw [show k_ty (h.1 a).1 = none from k_dis _ _ hr]; exact fun h => by cases h)
  · rw [h_put_self, g1, arrV_store]
    rfl
theorem V.lastore {a : Nat} {j : Int32} {x : Int64} {v : Value} (hd : decode (m_C i) pc = .ok (.lastore, 1)) (ha : g_0 G ≤ a ∧ a < h.2.2) (hk : k_ty (h.1 a).1 = some .long) (hin : vp_in j (h.1 a).2) (hv : .long x = v) (kk : V G i (pc + 1) lv st (h_put h a j.toNatClampNeg v) c s Q) : V G i pc lv (.long x :: .int j :: .ref a :: st) h c s Q := by
  intro X C E H locs cells slots ls hR hL hl h1 h2
  obtain ⟨hx, hb, -, -, -, -, -, hK, -⟩ := id C
  subst hv
  refine W.last hx hb ((hR.2.2.2 a ha.1 ha.2).2 _ hk) ((hK.2.1 _ _ hk).1 _ _) (fun q => by cases q) (a_sz hin) rfl rfl hd fun H' g1 g2 g3 => ?_
  refine kk X C E H' _ cells slots ls (hR.upd (h' := h_put h a j.toNatClampNeg _) (a := a) rfl rfl (fun b hb => h_put_ne hb) g2 g3 ha.1 (fun _ => ⟨fun r hr => ?_, fun ty' hty' => ?_⟩)) (t_lc hL ha.1) hl h1 h2
  · exact absurd hk (by rw [show k_ty (h.1 a).1 = none from k_dis _ _ hr]; exact fun h => by cases h)
  · rw [h_put_self, g1, arrV_store]
    rfl
theorem V.slen {n : Int32} (hd : decode (m_C i) pc = .ok (.arraylength, 1)) (hn : nI (g_L G) = n) (hb0 : g_b G < g_0 G) (kk : V G i (pc + 1) lv (.int n :: st) h c s Q) : V G i pc lv (.ref (g_b G) :: st) h c s Q := by
  intro X C E H locs cells slots ls hR hL hl h1 h2
  obtain ⟨hx, hb, -, -, -, -, -, hK, -⟩ := id C
  obtain ⟨scr, z1, z2, z3, z4, z5⟩ := hK.2.2.2.2.2.2
  exact W.alen hx hb (by rw [hR.2.2.1 _ hb0]; exact z1) z2 (by rw [z4]; exact hn) rfl rfl hd (kk X C E H locs cells slots ls hR hL hl h1 h2)
theorem V.sld {j : Int32} {v : Int32} (hd : decode (m_C i) pc = .ok (.iaload, 1)) (hb0 : g_b G < g_0 G) (hin : vp_in j (g_L G)) (hv : g_xs G j.toNatClampNeg = v) (kk : V G i (pc + 1) lv (.int v :: st) h c s Q) : V G i pc lv (.int j :: .ref (g_b G) :: st) h c s Q := by
  intro X C E H locs cells slots ls hR hL hl h1 h2
  obtain ⟨hx, hb, -, -, -, -, -, hK, -⟩ := id C
  obtain ⟨scr, z1, z2, z3, z4, z5⟩ := hK.2.2.2.2.2.2
  subst hv
  exact W.iald hx hb (by rw [hR.2.2.1 _ hb0]; exact z1) z2 z3 (by rw [z4]; exact hin) (z5 _ (a_in hin)) rfl rfl hd (kk X C E H locs cells slots ls hR hL hl h1 h2)
theorem V.objInit {a idx : Nat} (hd : decode (m_C i) pc = .ok (.invokespecial idx, 3)) (hw : Cond.methodLink (m_Y i).cls idx objectInit ∈ tb) (hw2 : Cond.instanceMethod objectInit ∈ tb) (hw3 : Cond.code objectInit ⟨#[0xb1]⟩ 1 none ∈ tb) (hD : 1 ≤ m_D i) (hW : 45 ≤ m_W i) (hs : (st.map fun v => v.category).sum ≤ 8) (kk : V G i (pc + 3) lv st h c s Q) : V G i pc lv (.ref a :: st) h c s Q := by
  intro X C E H locs cells slots ls hR hL hl h1 h2
  obtain ⟨hx, hb, -, -, hml, hown, hts, hK, -, hfr, hlo, -, -⟩ := id C
  exact W.objInit hx hb hown (hts _ hw) (hts _ hw2) (hts _ hw3) rfl (by rw [hml]; exact hl.1) rfl hd (by omega) (by show 2 * 0 + _ + 12 ≤ _; omega) (kk X C E H locs cells slots ls hR hL hl h1 h2)
/-- of the class of an object of kind kd: castable to the class of pool entry idx, or not -/
theorem V.instY {a idx : Nat} {r : vw_C} {nm : String} (hd : decode (m_C i) pc = .ok (.instanceof idx, 3)) (ha : g_0 G ≤ a ∧ a < h.2.2) (hk : vwCl[(h.1 a).1]? = some r) (hw : Cond.classLink (m_Y i).cls idx nm ∈ tb) (hc : (r.1, nm) ∈ n_C) (kk : V G i (pc + 3) lv (.int 1 :: st) h c s Q) : V G i pc lv (.ref a :: st) h c s Q := by
  intro X C E H locs cells slots ls hR hL hl h1 h2
  obtain ⟨hx, hb, -, -, -, hown, hts, hK, -⟩ := id C
  obtain ⟨cell, q1, q2, q3, q4⟩ := (hR.2.2.2 a ha.1 ha.2).1 _ hk
  exact va_instY hx hb hown (hts _ hw) (hK.2.2.2.2.1 _ hc) ⟨cell, q1, by rw [q3]; rfl, by rw [q2]; exact (hK.1 _ _ hk).2.1⟩ hd (kk X C E H locs cells slots ls hR hL hl h1 h2)
theorem V.castY {a idx : Nat} {r : vw_C} {nm : String} (hd : decode (m_C i) pc = .ok (.checkcast idx, 3)) (ha : g_0 G ≤ a ∧ a < h.2.2) (hk : vwCl[(h.1 a).1]? = some r) (hw : Cond.classLink (m_Y i).cls idx nm ∈ tb) (hc : (r.1, nm) ∈ n_C) (kk : V G i (pc + 3) lv (.ref a :: st) h c s Q) : V G i pc lv (.ref a :: st) h c s Q := by
  intro X C E H locs cells slots ls hR hL hl h1 h2
  obtain ⟨hx, hb, -, -, -, hown, hts, hK, -⟩ := id C
  obtain ⟨cell, q1, q2, q3, q4⟩ := (hR.2.2.2 a ha.1 ha.2).1 _ hk
  exact va_castY hx hb hown (hts _ hw) (hK.2.2.2.2.1 _ hc) ⟨cell, q1, by rw [q3]; rfl, by rw [q2]; exact (hK.1 _ _ hk).2.1⟩ hd (kk X C E H locs cells slots ls hR hL hl h1 h2)
theorem V.instS {a idx : Nat} {r : vw_C} (hd : decode (m_C i) pc = .ok (.instanceof idx, 3)) (ha : g_0 G ≤ a ∧ a < h.2.2) (hk : vwCl[(h.1 a).1]? = some r) (hw : Cond.classLink (m_Y i).cls idx r.1 ∈ tb) (kk : V G i (pc + 3) lv (.int 1 :: st) h c s Q) : V G i pc lv (.ref a :: st) h c s Q := by
  intro X C E H locs cells slots ls hR hL hl h1 h2
  obtain ⟨hx, hb, -, -, -, hown, hts, hK, -⟩ := id C
  obtain ⟨cell, q1, q2, q3, q4⟩ := (hR.2.2.2 a ha.1 ha.2).1 _ hk
  exact va_instS hx hb hown (hts _ hw) (hK.1 _ _ hk).2 ⟨cell, q1, by rw [q3]; rfl, by rw [q2]; exact (hK.1 _ _ hk).2.1⟩ hd (kk X C E H locs cells slots ls hR hL hl h1 h2)
theorem V.castS {a idx : Nat} {r : vw_C} (hd : decode (m_C i) pc = .ok (.checkcast idx, 3)) (ha : g_0 G ≤ a ∧ a < h.2.2) (hk : vwCl[(h.1 a).1]? = some r) (hw : Cond.classLink (m_Y i).cls idx r.1 ∈ tb) (kk : V G i (pc + 3) lv (.ref a :: st) h c s Q) : V G i pc lv (.ref a :: st) h c s Q := by
  intro X C E H locs cells slots ls hR hL hl h1 h2
  obtain ⟨hx, hb, -, -, -, hown, hts, hK, -⟩ := id C
  obtain ⟨cell, q1, q2, q3, q4⟩ := (hR.2.2.2 a ha.1 ha.2).1 _ hk
  exact va_castS hx hb hown (hts _ hw) (hK.1 _ _ hk).2 ⟨cell, q1, by rw [q3]; rfl, by rw [q2]; exact (hK.1 _ _ hk).2.1⟩ hd (kk X C E H locs cells slots ls hR hL hl h1 h2)
theorem V.instNo {a idx : Nat} {r : vw_C} {nm : String} (hd : decode (m_C i) pc = .ok (.instanceof idx, 3)) (ha : g_0 G ≤ a ∧ a < h.2.2) (hk : vwCl[(h.1 a).1]? = some r) (hw : Cond.classLink (m_Y i).cls idx nm ∈ tb) (hc : (r.1, nm) ∈ n_N) (kk : V G i (pc + 3) lv (.int 0 :: st) h c s Q) : V G i pc lv (.ref a :: st) h c s Q := by
  intro X C E H locs cells slots ls hR hL hl h1 h2
  obtain ⟨hx, hb, -, -, -, hown, hts, hK, -⟩ := id C
  obtain ⟨cell, q1, q2, q3, q4⟩ := (hR.2.2.2 a ha.1 ha.2).1 _ hk
  exact va_instNo hx hb hown (hts _ hw) (hK.2.2.2.2.2.1 _ hc) ⟨cell, q1, by rw [q3]; rfl, by rw [q2]; exact (hK.1 _ _ hk).2.1⟩ hd (kk X C E H locs cells slots ls hR hL hl h1 h2)
theorem V.instN {idx : Nat} (hd : decode (m_C i) pc = .ok (.instanceof idx, 3)) (kk : V G i (pc + 3) lv (.int 0 :: st) h c s Q) : V G i pc lv (.null :: st) h c s Q :=
  fun X C E H locs cells slots ls hR hL hl h1 h2 => lv_instN C.1 C.2.1 hd (kk X C E H locs cells slots ls hR hL hl h1 h2)
theorem V.castN {idx : Nat} (hd : decode (m_C i) pc = .ok (.checkcast idx, 3)) (kk : V G i (pc + 3) lv (.null :: st) h c s Q) : V G i pc lv (.null :: st) h c s Q :=
  fun X C E H locs cells slots ls hR hL hl h1 h2 => lv_castN C.1 C.2.1 hd (kk X C E H locs cells slots ls hR hL hl h1 h2)
end VH
